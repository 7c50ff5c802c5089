/** Promises 15 to 19, 37 and 38: if only SUNDAYS go by. */
public final class AheadTest {
    private static final Check CHECK = new Check();
    // Each crossing takes 5 of one's longing, each Sunday here brings 2. Longing, and who crosses:
    // 10 12 10 9 (0, 1; 2 waits), 5 7 12 11 (2, 3), 7 9 7 6 (none), 9 11 9 8 (1),
    // 11 6 11 10 (0, 2; 3 waits), 6 8 6 12
    private static final String FOUR = "worth 0 5;person 0 0 0 10;person 0 0 0 12;person 0 0 0 10;"
            + "person 0 0 0 9;bridge 2;";

    public static void main(String[] args) {
        crossing();
        then();
        first();
        waiting();
        toBear();
        times();
        fullest();
        nothingChanges();
        CHECK.end();
    }

    private static void crossing() {
        CHECK.promise("15 crossing");
        RiverIfs river = Texts.river(FOUR);
        int[] due = {3, 12, 0, 2, 5};
        for (int k = 1; k <= 5; k++) {
            CHECK.same("crossing " + k, river.crossing(k), due[k - 1]);
        }
        river.sundays(1);
        for (int k = 1; k <= 4; k++) {
            CHECK.same("from now " + k, river.crossing(k), due[k]);
        }
        river.bridge(1);
        CHECK.same("by another bridge", river.crossing(1), 4);
        CHECK.illegal("0", () -> river.crossing(0));
        CHECK.illegal("61", () -> river.crossing(61));
        CHECK.illegal("-1", () -> river.crossing(-1));
        RiverIfs always = Texts.river("person 0 0 0 0;person 0 0 0 0;crosses 1;");
        CHECK.same("60", always.crossing(60), 3);
    }

    private static void then() {
        CHECK.promise("16 then");
        RiverIfs river = Texts.river(FOUR);
        int[][] longing = {{10, 12, 10, 9}, {5, 7, 12, 11}, {7, 9, 7, 6}, {9, 11, 9, 8},
            {11, 6, 11, 10}, {6, 8, 6, 12}};
        for (int sundays = 0; sundays <= 5; sundays++) {
            for (int person = 0; person < 4; person++) {
                CHECK.same(person + " behind " + sundays, river.then(person, sundays, 0),
                        longing[sundays][person]);
            }
        }
        CHECK.same("flowers", river.then(0, 0, 1) + " " + river.then(0, 1, 1) + " "
                + river.then(0, 4, 1) + " " + river.then(0, 5, 1), "0 1 1 2");
        CHECK.same("60", Texts.river("person 0 0 0 7;crosses 0;").then(0, 60, 0), 99);
        CHECK.noSuch("person 4", () -> river.then(4, 0, 0));
        CHECK.noSuch("person -1", () -> river.then(-1, 0, 0));
        CHECK.noSuch("what 2", () -> river.then(0, 0, 2));
        CHECK.noSuch("what -1", () -> river.then(0, 0, -1));
        CHECK.noSuch("person ahead of sundays", () -> river.then(4, 61, 0));
        CHECK.noSuch("what ahead of sundays", () -> river.then(0, 61, 2));
        CHECK.illegal("61", () -> river.then(0, 61, 0));
        CHECK.illegal("-1", () -> river.then(0, -1, 1));
    }

    private static void first() {
        CHECK.promise("17 first");
        RiverIfs river = Texts.river(FOUR);
        CHECK.same("0", river.first(0), 1);
        CHECK.same("1", river.first(1), 1);
        CHECK.same("2", river.first(2), 2);
        CHECK.same("3", river.first(3), 2);
        river.sundays(2);
        CHECK.same("from now", river.first(0) + " " + river.first(1), "3 2");
        CHECK.noSuch("4", () -> river.first(4));
        CHECK.noSuch("-1", () -> river.first(-1));
        RiverIfs last = Texts.river("person 0 0 0 0;crosses sunday=59;");
        CHECK.same("the 60th", last.first(0), 60);
        CHECK.same("none", Texts.river("person 0 0 0 0;crosses sunday=60;").first(0), -1);
    }

    private static void waiting() {
        CHECK.promise("18 waiting");
        RiverIfs river = Texts.river(FOUR);
        CHECK.same("2", river.waiting(2, 0) + " " + river.waiting(2, 1) + " "
                + river.waiting(2, 5), "0 1 1");
        CHECK.same("3", river.waiting(3, 4) + " " + river.waiting(3, 5), "0 1");
        CHECK.same("0", river.waiting(0, 5), 0);
        RiverIfs never = Texts.river("person 0 0 0 99;person 0 0 0 99;crosses 1;bridge 1;");
        CHECK.same("60", never.waiting(1, 60), 60);
        CHECK.same("the first", never.waiting(0, 60), 0);
        CHECK.noSuch("4", () -> river.waiting(4, 0));
        CHECK.noSuch("-1 ahead of sundays", () -> river.waiting(-1, 61));
        CHECK.illegal("61", () -> river.waiting(0, 61));
        CHECK.illegal("-1", () -> river.waiting(0, -1));
    }

    private static void toBear() {
        CHECK.promise("19 toBear");
        RiverIfs river = Texts.river(FOUR);
        CHECK.same("0", river.toBear(0), 1);
        CHECK.same("1", river.toBear(1), 3);
        CHECK.same("5", river.toBear(5), 3);
        river.bridge(8);
        CHECK.same("whatever it bears now", river.toBear(1), 3);
        RiverIfs eight = Texts.river("person 0 0 0 99;".repeat(8) + "crosses 1;");
        CHECK.same("eight", eight.toBear(60), 8);
        RiverIfs seven = Texts.river("person 0 0 0 99;".repeat(7) + "person 0 0 0 1;"
                + "crosses 98<longing and sunday<50;");
        CHECK.same("seven", seven.toBear(49), 7);
        CHECK.same("eight, by then", seven.toBear(50), 8);
        CHECK.illegal("61", () -> river.toBear(61));
        CHECK.illegal("-1", () -> river.toBear(-1));
        CHECK.same("nobody", new RiverIfs().toBear(60), 1);
    }

    private static void times() {
        CHECK.promise("37 times");
        RiverIfs river = Texts.river(FOUR);
        int[] due = {2, 2, 2, 1};
        for (int person = 0; person < 4; person++) {
            CHECK.same("times of " + person, river.times(person, 5), due[person]);
            CHECK.same("none of none", river.times(person, 0), 0);
        }
        CHECK.same("four of them", river.times(0, 4), 1);
        CHECK.same("60", Texts.river("person 0 0 0 0;crosses 1;").times(0, 60), 60);
        CHECK.noSuch("4 ahead of sundays", () -> river.times(4, 61));
        CHECK.noSuch("-1", () -> river.times(-1, 1));
        CHECK.illegal("61", () -> river.times(0, 61));
        CHECK.illegal("-1", () -> river.times(0, -1));
    }

    private static void fullest() {
        CHECK.promise("38 fullest");
        RiverIfs river = Texts.river(FOUR);
        CHECK.same("of like ones the first", river.fullest(5, 0), 1);
        CHECK.same("how many", river.fullest(5, 1), 2);
        RiverIfs third = Texts.river("person 0 0 0 0;person 0 0 0 1;person 0 0 0 9;crosses sunday=2 "
                + "or longing=9;");
        CHECK.same("the third", third.fullest(3, 0) + " " + third.fullest(3, 1), "3 3");
        CHECK.same("of two", third.fullest(2, 0) + " " + third.fullest(2, 1), "1 1");
        CHECK.same("of 60", third.fullest(60, 0), 3);
        CHECK.same("nobody", new RiverIfs().fullest(60, 0) + " " + new RiverIfs().fullest(1, 1),
                "1 0");
        CHECK.noSuch("what 2 ahead of sundays", () -> river.fullest(0, 2));
        CHECK.noSuch("what -1", () -> river.fullest(1, -1));
        CHECK.illegal("0", () -> river.fullest(0, 0));
        CHECK.illegal("61", () -> river.fullest(61, 1));
    }

    private static void nothingChanges() {
        CHECK.promise("15 to 19, nothing changes");
        RiverIfs river = Texts.river(FOUR);
        river.sundays(1);
        String before = state(river);
        river.crossing(60);
        river.then(0, 60, 0);
        river.first(3);
        river.waiting(0, 60);
        river.toBear(60);
        river.times(0, 60);
        river.fullest(60, 0);
        river.years(7, 60, 0);
        CHECK.same("all", state(river), before);
    }

    private static String state(RiverIfs river) {
        StringBuilder all = new StringBuilder();
        for (int what = 0; what < 15; what++) {
            all.append(river.count(what)).append(' ');
        }
        for (int i = 0; i < 32; i++) {
            all.append(river.person(i / 8, i % 8)).append(' ');
        }
        return all.toString();
    }
}
