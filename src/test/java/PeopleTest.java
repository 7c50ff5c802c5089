/** Promises 25 to 32: PEOPLE and what they would have. */
public final class PeopleTest {
    private static final Check CHECK = new Check();
    // THERE: 3, 3, 12, 7; worth of HAS: 1, 2, 4, 3; of THERE: 3, 3, -4, 7
    private static final String FOUR = "worth 0 1;worth 1 2;worth 2 4;worth 3 - 8;person 1 1 0 5;"
            + "person 2 0 1 7;person 4 3 2 0;person 3 2 0 0;";

    public static void main(String[] args) {
        like();
        toSend();
        happiest();
        critical();
        bestMissed();
        commonAndApart();
        unhad();
        CHECK.end();
    }

    private static void like() {
        CHECK.promise("25 like");
        RiverIfs river = Texts.river(FOUR);
        CHECK.same("like", river.like(0, 0) + " " + river.like(1, 0) + " " + river.like(2, 0) + " "
                + river.like(3, 0), "3 3 4 8");
        CHECK.same("neighbours", river.like(0, 1) + " " + river.like(1, 1) + " " + river.like(2, 1)
                + " " + river.like(3, 1), "8 8 0 0");
        river.has(2, 3, true);
        CHECK.same("one is its own neighbour", river.like(2, 1), 4);
        RiverIfs byIfs = Texts.river("if 1 0 1;if 2 0 0;person 0 0 0 0;person 0 1 0 0;");
        CHECK.same("by ifs", byIfs.like(0, 0), 3);
        byIfs.deny(0, true);
        CHECK.same("denied", byIfs.like(0, 0), 1);
        CHECK.noSuch("4", () -> river.like(4, 0));
        CHECK.noSuch("-1", () -> river.like(-1, 0));
        CHECK.noSuch("what 2", () -> river.like(0, 2));
        CHECK.noSuch("what -1", () -> river.like(0, -1));
    }

    private static void toSend() {
        CHECK.promise("26 toSend");
        RiverIfs river = Texts.river(FOUR);
        int[] due = {0, 8, 5, 7, 15, -1, -1, -1, -1};
        for (int many = 0; many <= 8; many++) {
            CHECK.same("send " + many, river.toSend(many), due[many]);
        }
        CHECK.illegal("9", () -> river.toSend(9));
        CHECK.illegal("-1", () -> river.toSend(-1));
        CHECK.illegal("nobody, 9", () -> new RiverIfs().toSend(9));
        CHECK.same("all eight", Texts.river("person 0 0 0 0;".repeat(8)).toSend(8), 255);
        RiverIfs byIfs = Texts.river("if 2 0 2;if 4 0 3;person 3 0 0 0;person 24 5 0 0;");
        CHECK.same("by ifs", byIfs.toSend(1), 1);
        byIfs.deny(1, true);
        CHECK.same("of like ones the least", byIfs.toSend(1), 1);
        byIfs.deny(0, true);
        CHECK.same("denied", byIfs.toSend(1), 2);
    }

    private static void happiest() {
        CHECK.promise("27 happiest");
        RiverIfs river = Texts.river(FOUR);
        CHECK.same("here", river.happiest(0), 2);
        CHECK.same("there", river.happiest(1), 3);
        CHECK.same("spared", river.happiest(2), 3);
        river.has(3, 2, true);
        CHECK.same("here", river.happiest(0), 3);
        RiverIfs sad = Texts.river("worth 0 - 5;worth 1 - 3;person 1 0 5 0;person 2 1 5 0;"
                + "person 2 1 5 0;");
        CHECK.same("of like ones the least", sad.happiest(0) + " " + sad.happiest(1) + " "
                + sad.happiest(2), "1 1 1");
        RiverIfs spared = Texts.river("worth 0 - 5;worth 1 - 3;person 2 5 0 0;person 1 5 0 0;");
        CHECK.same("spared of the worst", spared.happiest(2) + " " + spared.happiest(0), "1 0");
        RiverIfs each = Texts.river("worth 0 2;worth 1 3;worth 2 4;person 4 2 2 0;person 3 2 1 0;"
                + "person 2 5 5 0;");
        CHECK.same("each bank its own", each.happiest(0) + " " + each.happiest(1) + " "
                + each.happiest(2), "1 1 2");
        RiverIfs there = Texts.river("worth 0 2;worth 1 3;worth 2 4;person 3 9 9 0;person 1 2 0 0;");
        CHECK.same("there alone", there.happiest(0) + " " + there.happiest(1) + " "
                + there.happiest(2), "0 1 0");
        for (int what = 0; what < 3; what++) {
            CHECK.same("nobody", new RiverIfs().happiest(what), -1);
        }
        CHECK.noSuch("3", () -> river.happiest(3));
        CHECK.noSuch("-1", () -> new RiverIfs().happiest(-1));
    }

    private static void critical() {
        CHECK.promise("28 critical");
        RiverIfs river = Texts.river("if 1 0 1;if 2 0 2;if 1 0 2;if 4 0 3;if 32 0 6;"
                + "person 0 0 0 0;person 0 5 0 0;person 2 7 0 0;");
        CHECK.same("0", river.critical(0), 9);
        CHECK.same("1", river.critical(1), 16);
        CHECK.same("2", river.critical(2), 10);
        river.deny(2, true);
        CHECK.same("besides what is denied", river.critical(0), 11);
        CHECK.noSuch("3", () -> river.critical(3));
        CHECK.noSuch("-1", () -> river.critical(-1));
        CHECK.same("another thing comes", Texts.river("if 1 2 3;if 1 8 1;person 1 0 0 0;").critical(0),
                1);
    }

    private static void bestMissed() {
        CHECK.promise("29 bestMissed");
        RiverIfs river = Texts.river(FOUR);
        CHECK.same("0", river.bestMissed(0), 2);
        CHECK.same("2", river.bestMissed(2), 1);
        CHECK.same("3", river.bestMissed(3), 2);
        CHECK.same("of like ones the least", Texts.river("person 0 5 0 0;").bestMissed(0), 0);
        RiverIfs byIfs = Texts.river("worth 0 1;worth 8 - 9;worth 9 9;if 16 0 9;if 1 0 8;"
                + "person 0 0 0 0;");
        CHECK.same("4 brings 9, as does 9", byIfs.bestMissed(0), 4);
        byIfs.deny(0, true);
        CHECK.same("denied", byIfs.bestMissed(0), 9);
        RiverIfs last = Texts.river("worth 0 - 9;if 511 0 0;if 510 0 0;person 511 0 0 0;");
        CHECK.same("what one has is no worse", last.bestMissed(0), 0);
        CHECK.noSuch("4", () -> river.bestMissed(4));
        CHECK.noSuch("-1", () -> river.bestMissed(-1));
    }

    private static void commonAndApart() {
        RiverIfs river = Texts.river(FOUR);
        CHECK.promise("30 common");
        CHECK.same("0 3", river.common(0, 3), 3);
        CHECK.same("2 3", river.common(2, 3), 4);
        CHECK.same("0 2", river.common(0, 2), 0);
        CHECK.same("with oneself", river.common(3, 3), 7);
        CHECK.noSuch("4", () -> river.common(4, 0));
        CHECK.noSuch("other 4", () -> river.common(0, 4));
        CHECK.noSuch("-1", () -> river.common(-1, 0));
        CHECK.noSuch("other -1", () -> river.common(0, -1));
        CHECK.promise("31 apart");
        CHECK.same("0 3", river.apart(0, 3), 1);
        CHECK.same("0 2", river.apart(0, 2), 4);
        CHECK.same("0 1", river.apart(0, 1), 0);
        CHECK.same("2 3", river.apart(2, 3), 3);
        CHECK.noSuch("4", () -> river.apart(4, 0));
        CHECK.noSuch("other 4", () -> river.apart(0, 4));
        CHECK.noSuch("-1", () -> river.apart(-1, 0));
        CHECK.noSuch("other -1", () -> river.apart(0, -1));
    }

    private static void unhad() {
        CHECK.promise("32 unhad");
        RiverIfs river = Texts.river(FOUR + "if 8 0 9;");
        CHECK.same("unhad", river.unhad(), 496);
        river.deny(0, true);
        CHECK.same("denied", river.unhad(), 1008);
        river.miss(2, 6);
        CHECK.same("another is missed", river.unhad(), 952);
        CHECK.same("nobody", new RiverIfs().unhad(), 1023);
        CHECK.same("all is had", Texts.river("person 1023 0 0 0;").unhad(), 0);
    }
}
