/** Promises 1 and 5 to 14: what is there, ACTS, and how they are undone. */
public final class StateTest {
    private static final Check CHECK = new Check();
    // Each crossing takes 5 of one's longing, each Sunday here brings 2.
    private static final String FOUR = "worth 0 5;person 0 0 0 10;person 0 0 0 12;person 0 0 0 10;"
            + "person 0 0 0 9;bridge 2;";

    public static void main(String[] args) {
        newObject();
        counts();
        worths();
        conditionals();
        people();
        sundays();
        aSunday();
        bounds();
        hasAndMiss();
        denyAndBridge();
        undone();
        undoneOfEight();
        undoKeepsForty();
        allCallsOfAnObject();
        CHECK.end();
    }

    private static void newObject() {
        CHECK.promise("1 a new object");
        RiverIfs river = new RiverIfs();
        int[] due = {0, 0, 4, 0, 0, 0, 0, 0, -1, 0, 0, 0, 0, 0, 0};
        for (int what = 0; what < due.length; what++) {
            CHECK.same("count " + what, river.count(what), due[what]);
        }
        CHECK.noSuch("person", () -> river.person(0, 0));
        CHECK.noSuch("conditional", () -> river.conditional(0, 0));
        CHECK.same("worth", river.worth(0), 0);
        CHECK.same("fault", river.fault(), -1);
        CHECK.same("undo", river.undo(), -1);
        CHECK.same("restore", river.restore(), false);
        CHECK.same("sundays", river.sundays(20), 20);
        CHECK.same("nobody crossed", river.count(4), 0);
    }

    private static void counts() {
        CHECK.promise("5 count");
        RiverIfs river = Texts.river(Texts.SMALL);
        int[] due = {3, 3, 1, 0, 0, 0, 0, 3, -1, 0, 0, 0, 0, 0, 0};
        for (int what = 0; what < due.length; what++) {
            CHECK.same("count " + what, river.count(what), due[what]);
        }
        CHECK.noSuch("15", () -> river.count(15));
        CHECK.noSuch("-1", () -> river.count(-1));
        CHECK.noSuch("greatest", () -> river.count(Integer.MAX_VALUE));
        Texts.feed(river, "two feeds of the tape, it is");
        CHECK.same("tape", river.count(11), 40);
        river.sundays(1);
        CHECK.same("crossed", river.count(4), 1);
        CHECK.same("sunday", river.count(3), 1);
        river.sundays(1);
        CHECK.same("crossed", river.count(4), 4);
        river.deny(2, true);
        river.deny(0, true);
        CHECK.same("denied", river.count(5), 5);
        CHECK.same("ends", river.count(7), 8);
        CHECK.same("acts", river.count(9), 4);
        river.see(0, 0, true);
        CHECK.same("seen", river.count(10), 1);
        river.bridge(0);
        CHECK.same("refused", river.count(13), 1);
        CHECK.same("no text", river.count(12), 0);
        CHECK.same("no seen", river.count(14), 0);
    }

    private static void worths() {
        CHECK.promise("6 worth");
        RiverIfs river = Texts.river(Texts.SMALL);
        int[] due = {3, 5, -4, 9, 1, 0, 0, 0, 0, 0};
        for (int thing = 0; thing < 10; thing++) {
            CHECK.same("worth " + thing, river.worth(thing), due[thing]);
        }
        CHECK.noSuch("10", () -> river.worth(10));
        CHECK.noSuch("-1", () -> river.worth(-1));
    }

    private static void conditionals() {
        CHECK.promise("7 conditional");
        RiverIfs river = Texts.river(Texts.SMALL);
        CHECK.same("needs", river.conditional(1, 0), 8);
        CHECK.same("bars", river.conditional(1, 1), 4);
        CHECK.same("gives", river.conditional(1, 2), 4);
        CHECK.same("if", river.conditional(1, 3), 0);
        CHECK.same("unless", river.conditional(2, 3), 1);
        CHECK.same("holds", river.conditional(1, 4), 0);
        river.deny(1, true);
        CHECK.same("denied", river.conditional(1, 4), 1);
        CHECK.same("the others hold", river.conditional(0, 4) + river.conditional(2, 4), 0);
        CHECK.noSuch("3", () -> river.conditional(3, 0));
        CHECK.noSuch("-1", () -> river.conditional(-1, 0));
        CHECK.noSuch("what 5", () -> river.conditional(0, 5));
        CHECK.noSuch("what -1", () -> river.conditional(0, -1));
    }

    private static void people() {
        CHECK.promise("8 person");
        RiverIfs river = Texts.river(Texts.SMALL);
        int[][] due = {{1, 1, 0, 15, 0, 27, 4, 1}, {6, 0, 2, 4, 0, 15, 6, 0},
            {0, 4, 1, 9, 0, 20, 4, 0}};
        for (int person = 0; person < 3; person++) {
            for (int what = 0; what < 8; what++) {
                CHECK.same(person + " what " + what, river.person(person, what), due[person][what]);
            }
        }
        CHECK.noSuch("3", () -> river.person(3, 0));
        CHECK.noSuch("-1", () -> river.person(-1, 0));
        CHECK.noSuch("what 8", () -> river.person(0, 8));
        CHECK.noSuch("what -1", () -> river.person(0, -1));
        RiverIfs ten = Texts.river("person 0 0 0 10;person 0 0 0 9;");
        CHECK.same("10 wants", ten.person(0, 7), 1);
        CHECK.same("9 doesn't", ten.person(1, 7), 0);
        RiverIfs zero = Texts.river("person 0 0 0 99;crosses 0;");
        CHECK.same("the rule alone", zero.person(0, 7), 0);
        // THERE is of all that one has and the missed thing; nothing comes of HAS here.
        RiverIfs spared = Texts.river("if 1 0 1;if 2 0 2;person 3 5 0 0;person 2 2 7 0;");
        CHECK.same("has", spared.person(0, 0), 3);
        CHECK.same("there", spared.person(0, 5), 39);
        CHECK.same("without thing 0", spared.person(0, 6), 6);
        CHECK.same("spared of what one hasn't", spared.person(1, 6), 6);
    }

    private static void sundays() {
        CHECK.promise("9 sundays");
        RiverIfs river = Texts.river(FOUR);
        CHECK.same("one", river.sundays(1), 1);
        CHECK.same("longing", longing(river), "5 7 12 11 ");
        CHECK.same("flowers", flowers(river), "1 1 0 0 ");
        CHECK.same("crossed", river.count(4), 3);
        CHECK.same("two more", river.sundays(2), 3);
        CHECK.same("longing", longing(river), "9 11 9 8 ");
        CHECK.same("flowers", flowers(river), "1 1 1 1 ");
        CHECK.same("nobody crossed", river.count(4), 0);
        CHECK.same("two more", river.sundays(2), 5);
        CHECK.same("longing", longing(river), "6 8 6 12 ");
        CHECK.same("crossed", river.count(4), 5);
        for (int wrong : new int[] {0, -1, 21, Integer.MIN_VALUE, Integer.MAX_VALUE}) {
            CHECK.same("wrong " + wrong, river.sundays(wrong), -1);
        }
        CHECK.same("refused", river.count(13), 5);
        CHECK.same("it stays", river.count(3), 5);
        CHECK.same("acts", river.count(9), 3);
    }

    private static void aSunday() {
        CHECK.promise("9 sundays, one by one");
        // 0: gains 3, not below 0; 1: gains nothing (worth below 0), but brings a flower;
        // 2: misses what it has: no flower; 3: stays, three things more, and 1.
        RiverIfs river = Texts.river("worth 0 3;worth 1 - 6;if 4 0 3;if 8 0 4;person 32 0 0 2;"
                + "person 32 1 0 2;person 1 0 0 2;person 0 2 0 1;bridge 3;crosses longing=2;");
        CHECK.same("one", river.sundays(1), 1);
        CHECK.same("longing", longing(river), "0 2 2 5 ");
        CHECK.same("flowers", flowers(river), "1 1 0 0 ");
        CHECK.same("crossed", river.count(4), 7);
        RiverIfs like = Texts.river("person 0 0 0 11;person 0 0 0 12;person 0 0 0 12;"
                + "person 0 0 0 11;bridge 3;");
        like.sundays(1);
        CHECK.same("of like ones the least", like.count(4), 7);
        RiverIfs least = Texts.river("person 0 0 0 11;person 0 0 0 12;person 0 0 0 12;bridge 1;");
        least.sundays(1);
        CHECK.same("the greatest first", least.count(4), 2);
    }

    private static void bounds() {
        CHECK.promise("9 sundays, bounds");
        RiverIfs river = Texts.river("worth 0 1;person 0 0 0 98;person 0 0 0 0;crosses longing=0 or "
                + "flowers;");
        river.sundays(1);
        CHECK.same("99 at most", river.person(0, 3), 99);
        river.sundays(1);
        CHECK.same("99 at most", river.person(0, 3), 99);
        for (int i = 0; i < 5; i++) {
            river.sundays(20);
        }
        CHECK.same("99 flowers at most", river.person(1, 4), 99);
        CHECK.same("longing 0", river.person(1, 3), 0);
        for (int i = 0; i < 44; i++) {
            river.sundays(20);
        }
        CHECK.same("982", river.count(3), 982);
        CHECK.same("above 999", river.sundays(18), -1);
        CHECK.same("999", river.sundays(17), 999);
        CHECK.same("no more", river.sundays(1), -1);
        CHECK.same("refused", river.count(13), 2);
        CHECK.same("what is asked goes on", river.crossing(60), 2);
        CHECK.same("acts", river.count(9), 40);
        RiverIfs far = Texts.river("person 0 0 0 0;crosses sunday=1010;");
        for (int i = 0; i < 50; i++) {
            far.sundays(i == 49 ? 19 : 20);
        }
        CHECK.same("the twelfth from 999", far.first(0), 12);
    }

    private static void hasAndMiss() {
        CHECK.promise("10 has");
        RiverIfs river = Texts.river(Texts.SMALL);
        CHECK.same("gets", river.has(1, 9, true), 518);
        CHECK.same("gets again", river.has(1, 9, true), -1);
        CHECK.same("loses", river.has(1, 1, false), 516);
        CHECK.same("loses again", river.has(1, 1, false), -1);
        CHECK.same("has", river.person(1, 0), 516);
        CHECK.same("others", river.person(0, 0) + river.person(2, 0), 1);
        CHECK.same("refused", river.count(13), 2);
        CHECK.same("acts", river.count(9), 2);
        CHECK.noSuch("person 3", () -> river.has(3, 0, true));
        CHECK.noSuch("person -1", () -> river.has(-1, 0, true));
        CHECK.noSuch("thing 10", () -> river.has(0, 10, true));
        CHECK.noSuch("thing -1", () -> river.has(0, -1, true));
        CHECK.promise("11 miss");
        CHECK.same("was", river.miss(1, 9), 0);
        CHECK.same("is so", river.miss(1, 9), -1);
        CHECK.same("was", river.miss(1, 3), 9);
        CHECK.same("missed", river.person(1, 1), 3);
        CHECK.same("refused", river.count(13), 3);
        CHECK.same("acts", river.count(9), 4);
        CHECK.noSuch("person 3", () -> river.miss(3, 0));
        CHECK.noSuch("person -1", () -> river.miss(-1, 0));
        CHECK.noSuch("thing 10", () -> river.miss(0, 10));
        CHECK.noSuch("thing -1", () -> river.miss(0, -1));
        CHECK.same("none of these is refused as an act", river.count(13), 3);
    }

    private static void denyAndBridge() {
        CHECK.promise("12 deny");
        RiverIfs river = Texts.river(Texts.SMALL);
        CHECK.same("holds", river.deny(1, false), false);
        CHECK.same("denied", river.deny(1, true), true);
        CHECK.same("is so", river.deny(1, true), false);
        CHECK.same("another", river.deny(2, true), true);
        CHECK.same("bits", river.count(5), 6);
        CHECK.same("there", river.person(0, 5), 11);
        CHECK.same("spared bank", river.person(0, 6), 0);
        CHECK.same("holds again", river.deny(1, false), true);
        CHECK.same("bits", river.count(5), 4);
        CHECK.same("refused", river.count(13), 2);
        CHECK.same("acts", river.count(9), 3);
        CHECK.noSuch("3", () -> river.deny(3, true));
        CHECK.noSuch("-1", () -> river.deny(-1, true));
        CHECK.promise("13 bridge");
        CHECK.same("bore", river.bridge(8), 1);
        CHECK.same("bore", river.bridge(1), 8);
        CHECK.same("the same number is an act too", river.bridge(1), 1);
        CHECK.same("acts", river.count(9), 6);
        for (int wrong : new int[] {0, 9, -1, Integer.MIN_VALUE}) {
            CHECK.same("wrong " + wrong, river.bridge(wrong), -1);
        }
        CHECK.same("refused", river.count(13), 6);
        CHECK.same("bears", river.count(2), 1);
    }

    private static void undone() {
        CHECK.promise("14 undo");
        RiverIfs river = Texts.river(FOUR + "if 1 0 1;");
        river.sundays(1);
        String first = longing(river) + flowers(river) + river.count(4) + river.count(3);
        river.has(0, 5, true);
        river.sundays(3);
        river.miss(1, 7);
        river.deny(0, true);
        river.bridge(7);
        CHECK.same("bridge", river.undo() + " " + river.count(2), "5 2");
        CHECK.same("denied", river.undo() + " " + river.count(5), "4 0");
        CHECK.same("missed", river.undo() + " " + river.person(1, 1), "3 0");
        CHECK.same("sundays", river.undo(), 2);
        CHECK.same("all of them",
                longing(river) + flowers(river) + river.count(4) + river.count(3), first);
        CHECK.same("has", river.undo() + " " + river.person(0, 0), "1 0");
        CHECK.same("sunday", river.undo(), 0);
        CHECK.same("longing", longing(river), "10 12 10 9 ");
        CHECK.same("flowers", flowers(river), "0 0 0 0 ");
        CHECK.same("crossed", river.count(4) + river.count(3), 0);
        CHECK.same("none", river.undo(), -1);
        CHECK.same("no act was refused", river.count(13), 0);
        river.has(0, 9, false);
        CHECK.same("what is refused is no act", river.undo(), -1);
    }

    private static void undoneOfEight() {
        CHECK.promise("14 undo, of eight");
        StringBuilder text = new StringBuilder("if 1 0 1;crosses 1;bridge 8;");
        for (int i = 0; i < 8; i++) {
            text.append("person ").append(100 + i).append(" 9 ").append(i).append(" 9;");
        }
        RiverIfs river = Texts.river(text.toString());
        river.deny(0, true);
        river.sundays(7);
        String before = all(river, 0) + all(river, 1) + longing(river) + flowers(river);
        for (int i = 0; i < 8; i++) {
            river.has(i, 9, true);
            river.miss(i, i);
        }
        river.deny(0, false);
        river.sundays(2);
        for (int left = 19; left >= 2; left--) {
            CHECK.same("undo", river.undo(), left);
        }
        CHECK.same("all", all(river, 0) + all(river, 1) + longing(river) + flowers(river), before);
        CHECK.same("has", all(river, 0), "100 101 102 103 104 105 106 107 ");
        CHECK.same("flowers", flowers(river), "7 7 7 7 7 7 7 7 ");
        CHECK.same("counts", river.count(2) + " " + river.count(3) + " " + river.count(4) + " "
                + river.count(5), "8 7 255 1");
    }

    private static void undoKeepsForty() {
        CHECK.promise("14 undo, forty are kept");
        RiverIfs river = Texts.river(FOUR);
        for (int i = 0; i < 45; i++) {
            river.miss(0, 1 + i % 9);
        }
        CHECK.same("kept", river.count(9), 40);
        for (int left = 39; left >= 0; left--) {
            CHECK.same("left", river.undo(), left);
            CHECK.same("missed", river.person(0, 1), 1 + (left + 4) % 9);
        }
        CHECK.same("none", river.undo(), -1);
        CHECK.same("missed by the fifth", river.person(0, 1), 5);
        for (int i = 0; i < 41; i++) {
            river.sundays(1);
        }
        for (int i = 0; i < 41; i++) {
            river.undo();
        }
        CHECK.same("the first one stays", river.count(3), 1);
    }

    /** An object is used for 512 calls: the last ones answer as the first ones do. */
    private static void allCallsOfAnObject() {
        CHECK.promise("9, 14, up to the 512th call");
        RiverIfs river = new RiverIfs();
        river.feed(0x20202020, 0x20202020, 0x20202020, 0x20202020, 0x20202020);
        river.shore(20);
        for (int calls = 4; calls <= 512; calls += 2) {
            CHECK.same("call " + (calls - 1), river.sundays(20), 20);
            CHECK.same("call " + calls, river.undo(), 0);
        }
    }

    private static String longing(RiverIfs river) {
        return all(river, 3);
    }

    private static String flowers(RiverIfs river) {
        return all(river, 4);
    }

    private static String all(RiverIfs river, int what) {
        StringBuilder row = new StringBuilder();
        for (int person = 0; person < river.count(0); person++) {
            row.append(river.person(person, what)).append(' ');
        }
        return row.toString();
    }
}
