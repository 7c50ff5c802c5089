/** Edges of what is asked of SUNDAYS to come ('==== 3.', promises 15 to 19, 37 and 38). */
final class AheadEdges {
    private static final int[] WRONG_FROM_0 = {-1, 61, Integer.MIN_VALUE, Integer.MAX_VALUE};
    private static final int[] WRONG_FROM_1 = {0, -1, 61, Integer.MIN_VALUE, Integer.MAX_VALUE};
    private static final int[] NO_PERSON = {-1, 2, 8, Integer.MIN_VALUE, Integer.MAX_VALUE};
    private static final int[] NO_WHAT = {-1, 2, Integer.MIN_VALUE, Integer.MAX_VALUE};
    // Of two only the first crosses, on the 60th SUNDAY (that of number 59), and the other waits.
    private static final String LATE = "worth 0 9;person 0 0 0 50;person 0 0 0 0;bridge 1;"
            + "crosses sunday=59;";

    private final Edges edges;

    AheadEdges(Edges edges) {
        this.edges = edges;
    }

    void all() {
        crossing();
        then();
        first();
        waiting();
        toBear();
        times();
        fullest();
        beyondTheLastSunday();
    }

    private void crossing() {
        edges.of("Terms 3", "CROSSING: who crosses on the k-th SUNDAY from now (1 to 60), as bits");
        RiverIfs late = Texts.river(LATE);
        edges.same("1, 59, 60", late.crossing(1) + " " + late.crossing(59) + " " + late.crossing(60),
                "0 0 1");
        late.sundays(1);
        edges.same("from now", late.crossing(59) + " " + late.crossing(60), "1 0");
        RiverIfs now = Texts.river("person 0 0 0 0;person 0 0 0 0;crosses sunday=0;");
        edges.same("1, 2", now.crossing(1) + " " + now.crossing(2), "3 0");
        edges.of("Promise 15", "IllegalArgumentException: not 1 to 60");
        for (int k : WRONG_FROM_1) {
            edges.illegal("k " + k, () -> late.crossing(k));
        }
    }

    private void then() {
        edges.of("Terms 3", "THEN: LONGING of one behind so many SUNDAYS (0 to 60); FLOWERS");
        RiverIfs late = Texts.river(LATE);
        edges.same("longing behind 0, 1, 59, 60", late.then(0, 0, 0) + " " + late.then(0, 1, 0) + " "
                + late.then(0, 59, 0) + " " + late.then(0, 60, 0), "50 52 99 90");
        edges.same("flowers behind 0, 59, 60", late.then(0, 0, 1) + " " + late.then(0, 59, 1) + " "
                + late.then(0, 60, 1), "0 0 1");
        edges.same("of the other one", late.then(1, 60, 0) + " " + late.then(1, 60, 1), "99 0");
        edges.of("Promise 16", "LONGING (what 0), FLOWERS (1). NoSuchElementException: also another what. "
                + "IllegalArgumentException (behind that): not 0 to 60");
        for (int what : NO_WHAT) {
            edges.noSuch("what " + what, () -> late.then(0, 0, what));
            edges.noSuch("what " + what + " ahead of 61", () -> late.then(0, 61, what));
        }
        for (int person : NO_PERSON) {
            edges.noSuch("person " + person, () -> late.then(person, 0, 0));
            edges.noSuch("person " + person + " ahead of -1", () -> late.then(person, -1, 1));
        }
        for (int sundays : WRONG_FROM_0) {
            edges.illegal("sundays " + sundays, () -> late.then(1, sundays, 0));
            edges.illegal("sundays " + sundays, () -> late.then(0, sundays, 1));
        }
    }

    private void first() {
        edges.of("Terms 3", "FIRST: on which SUNDAY from now (1 to 60) one crosses first; none");
        RiverIfs late = Texts.river(LATE);
        edges.same("the 60th", late.first(0), 60);
        late.sundays(1);
        edges.same("the 59th, from now", late.first(0), 59);
        edges.same("the 61st is none", Texts.river("person 0 0 0 0;crosses sunday=60;").first(0), -1);
        edges.same("the first", Texts.river("person 0 0 0 0;crosses sunday=0;").first(0), 1);
        edges.same("not the first and the third", Texts.river("person 0 0 0 0;crosses sunday=1 or "
                + "sunday=2;").first(0), 2);
        edges.of("Promise 17", "FIRST; NONE: none");
        edges.same("who waits", late.first(1), -1);
        for (int person : NO_PERSON) {
            edges.noSuch("person " + person, () -> late.first(person));
        }
    }

    private void waiting() {
        edges.of("Terms 3", "WAITING: how many of so many SUNDAYS (0 to 60) one wants to cross, but THE "
                + "BRIDGE doesn't bear one");
        RiverIfs late = Texts.river(LATE);
        edges.same("0, 59, 60", late.waiting(1, 0) + " " + late.waiting(1, 59) + " "
                + late.waiting(1, 60), "0 0 1");
        edges.same("who crosses", late.waiting(0, 60), 0);
        late.bridge(2);
        edges.same("borne", late.waiting(1, 60), 0);
        edges.same("all 60", Texts.river("person 0 0 0 99;person 0 0 0 99;bridge 1;crosses 1;")
                .waiting(1, 60), 60);
        edges.of("Promise 18", "IllegalArgumentException (behind NoSuchElementException): not 0 to 60");
        for (int sundays : WRONG_FROM_0) {
            edges.illegal("sundays " + sundays, () -> late.waiting(0, sundays));
        }
        for (int person : NO_PERSON) {
            edges.noSuch("person " + person, () -> late.waiting(person, 0));
            edges.noSuch("person " + person + " ahead of 61", () -> late.waiting(person, 61));
        }
    }

    private void toBear() {
        edges.of("Terms 3", "TO BEAR: the least that THE BRIDGE must bear (1 to 8) from now on, so that "
                + "nobody waits in so many SUNDAYS (0 to 60)");
        RiverIfs late = Texts.river(LATE);
        edges.same("0, 59, 60", late.toBear(0) + " " + late.toBear(59) + " " + late.toBear(60), "1 1 2");
        for (int people = 0; people <= 8; people++) {
            RiverIfs river = Texts.river("person 0 0 0 10;".repeat(people));
            edges.same(people + " people", river.toBear(1), Math.max(people, 1));
            edges.same("0 sundays", river.toBear(0), 1);
        }
        RiverIfs nobody = Texts.river("person 0 0 0 0;".repeat(8) + "crosses 0;");
        edges.same("nobody wants to", nobody.toBear(60), 1);
        edges.same("it bears what it bore", late.count(2), 1);
        edges.of("Promise 19", "IllegalArgumentException: not 0 to 60");
        for (int sundays : WRONG_FROM_0) {
            edges.illegal("sundays " + sundays, () -> late.toBear(sundays));
        }
    }

    private void times() {
        edges.of("Terms 3", "TIMES: on how many of so many SUNDAYS (0 to 60) one crosses, if only these "
                + "go by");
        RiverIfs late = Texts.river(LATE);
        edges.same("0, 59, 60", late.times(0, 0) + " " + late.times(0, 59) + " " + late.times(0, 60),
                "0 0 1");
        edges.same("who waits", late.times(1, 60), 0);
        edges.same("all", Texts.river("person 0 0 0 0;crosses 1;").times(0, 60), 60);
        edges.of("Promise 37", "IllegalArgumentException (behind NoSuchElementException): not 0 to 60");
        for (int sundays : WRONG_FROM_0) {
            edges.illegal("sundays " + sundays, () -> late.times(0, sundays));
        }
        for (int person : NO_PERSON) {
            edges.noSuch("person " + person, () -> late.times(person, 0));
            edges.noSuch("person " + person + " ahead of 61", () -> late.times(person, 61));
        }
    }

    private void fullest() {
        edges.of("Terms 3", "THE FULLEST: that SUNDAY from now, of so many (1 to 60), on which most cross "
                + "(of like ones the first): which; how many");
        RiverIfs late = Texts.river(LATE);
        edges.same("of 59 the first, by nobody", late.fullest(59, 0) + " " + late.fullest(59, 1), "1 0");
        edges.same("of 60 the last", late.fullest(60, 0) + " " + late.fullest(60, 1), "60 1");
        edges.same("of 1", late.fullest(1, 0) + " " + late.fullest(1, 1), "1 0");
        RiverIfs like = Texts.river("person 0 0 0 0;person 1 1 0 0;crosses sunday=1 or sunday=2 or "
                + "sunday=4 and here=0;");
        edges.same("of like ones the first", like.fullest(9, 0) + " " + like.fullest(9, 1), "2 2");
        RiverIfs eight = Texts.river("person 0 0 0 0;".repeat(8) + "bridge 8;crosses sunday=3;");
        edges.same("all eight", eight.fullest(60, 0) + " " + eight.fullest(60, 1), "4 8");
        edges.same("nobody", new RiverIfs().fullest(60, 0) + " " + new RiverIfs().fullest(60, 1), "1 0");
        edges.of("Promise 38", "which (what 0), how many (1). NoSuchElementException: another what. "
                + "IllegalArgumentException (behind that): not 1 to 60");
        for (int what : NO_WHAT) {
            edges.noSuch("what " + what, () -> late.fullest(1, what));
            edges.noSuch("what " + what + " ahead of 0", () -> late.fullest(0, what));
        }
        for (int sundays : WRONG_FROM_1) {
            edges.illegal("sundays " + sundays, () -> late.fullest(sundays, 0));
            edges.illegal("sundays " + sundays, () -> late.fullest(sundays, 1));
        }
    }

    /** Only sundays() refuses what would be above 999. */
    private void beyondTheLastSunday() {
        edges.of("Terms 3", "(If only SUNDAYS go by, from now on:)");
        RiverIfs river = Texts.river("person 0 0 0 0;crosses sunday=1058;");
        for (int i = 0; i < 50; i++) {
            river.sundays(i == 0 ? 19 : 20);
        }
        edges.same("999", river.count(3), 999);
        edges.same("the 60th from there", river.crossing(60) + " " + river.first(0) + " "
                + river.times(0, 60) + " " + river.fullest(60, 0), "1 60 1 60");
        edges.same("nothing went by", river.count(3), 999);
    }
}
