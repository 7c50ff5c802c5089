/** Promises 20 to 24 and 33 to 36, and what count() says of IFS. */
public final class ThingsTest {
    private static final Check CHECK = new Check();
    private static final String CHAIN = "if 1 0 1;if 2 0 2;if 4 0 3;";
    // Of thing 0 the first brings 3, and 3 bars the second, that would bring 1.
    private static final String BARRED = "if 1 2 3;if 1 8 1;";
    // Of thing 0 thing 2 comes at once, or by 1.
    private static final String TWO_WAYS = "if 1 0 2;if 2 0 2;if 1 0 1;";

    public static void main(String[] args) {
        comes();
        why();
        needed();
        fewest();
        leads();
        idle();
        ringAndEnds();
        resting();
        sets();
        toDeny();
        sources();
        CHECK.end();
    }

    private static void comes() {
        CHECK.promise("20 comes");
        RiverIfs chain = Texts.river(CHAIN);
        int[][] due = {{0, 0}, {1, 15}, {2, 14}, {8, 8}, {512, 512}, {1023, 1023}, {17, 31}};
        for (int[] one : due) {
            CHECK.same("comes of " + one[0], chain.comes(one[0]), one[1]);
        }
        chain.deny(1, true);
        CHECK.same("denied", chain.comes(1), 3);
        CHECK.same("the first that can", Texts.river(BARRED).comes(1), 9);
        CHECK.same("the other order", Texts.river("if 1 8 1;if 1 2 3;").comes(1), 3);
        // 2 comes by the second; then the first brings 3 ahead of the third, that it bars.
        CHECK.same("from the first one anew", Texts.river("if 4 0 3;if 1 0 2;if 1 8 4;").comes(1), 13);
        RiverIfs unless = Texts.river("unless 3 4 5;unless 0 0 6;");
        CHECK.same("not all are there", unless.comes(1), 33);
        CHECK.same("none is there", unless.comes(0), 32);
        CHECK.same("all are there", unless.comes(3), 3);
        CHECK.same("barred", unless.comes(4), 4);
        CHECK.same("an if without needs", Texts.river("if 0 0 6;").comes(0), 64);
        CHECK.illegal("1024", () -> chain.comes(1024));
        CHECK.illegal("-1", () -> chain.comes(-1));
    }

    private static void why() {
        CHECK.promise("21 why");
        RiverIfs chain = Texts.river(CHAIN);
        CHECK.same("three", chain.why(1, 3), 3);
        CHECK.same("two", chain.why(2, 3), 2);
        CHECK.same("there", chain.why(1, 0), 0);
        CHECK.same("none", chain.why(0, 3), -1);
        CHECK.same("nothing gives it", chain.why(1, 0) + chain.why(1, 9), -1);
        RiverIfs barred = Texts.river(BARRED);
        CHECK.same("in any order", barred.why(1, 1), 1);
        CHECK.same("though it doesn't come", barred.comes(1) & 2, 0);
        CHECK.same("barred by what is there", barred.why(9, 1), -1);
        CHECK.same("the shorter way", Texts.river("if 1 0 1;if 2 0 2;if 1 0 2;").why(1, 2), 1);
        RiverIfs denied = Texts.river("if 1 0 1;if 2 0 2;if 1 0 2;");
        denied.deny(2, true);
        CHECK.same("the longer way", denied.why(1, 2), 2);
        CHECK.same("unless, ahead of what undoes it",
                Texts.river("if 1 0 1;unless 2 0 2;").why(1, 2), 1);
        CHECK.noSuch("thing 10 ahead of things", () -> chain.why(1024, 10));
        CHECK.noSuch("thing -1", () -> chain.why(0, -1));
        CHECK.illegal("1024", () -> chain.why(1024, 0));
        CHECK.illegal("-1", () -> chain.why(-1, 9));
    }

    private static void needed() {
        CHECK.promise("22 needed");
        RiverIfs chain = Texts.river(CHAIN);
        CHECK.same("all", chain.needed(1, 3), 7);
        CHECK.same("two", chain.needed(2, 3), 6);
        CHECK.same("it is there", chain.needed(9, 3), 0);
        CHECK.same("it doesn't come", chain.needed(0, 3), 0);
        CHECK.same("one of two is not", Texts.river(TWO_WAYS).needed(1, 2), 0);
        RiverIfs denied = Texts.river(TWO_WAYS);
        denied.deny(0, true);
        CHECK.same("besides what is denied", denied.needed(1, 2), 6);
        CHECK.same("what would bar it", Texts.river("if 1 0 4;if 1 16 1;").needed(1, 1), 0);
        // Without the first the second comes to its turn, and bars the third.
        CHECK.same("what keeps a bar away", Texts.river("if 1 8 1;if 1 2 3;if 1 8 2;").needed(1, 2), 5);
        CHECK.noSuch("thing 10 ahead of things", () -> chain.needed(-1, 10));
        CHECK.illegal("1024", () -> chain.needed(1024, 0));
        CHECK.illegal("-1", () -> chain.needed(-1, 0));
    }

    private static void fewest() {
        CHECK.promise("23 fewest");
        RiverIfs chain = Texts.river(CHAIN);
        CHECK.same("the least", chain.fewest(0, 3), 1);
        CHECK.same("it comes", chain.fewest(4, 3), 0);
        CHECK.same("it is there", chain.fewest(8, 3), 0);
        CHECK.same("other things than itself", chain.fewest(0, 0), -1);
        CHECK.same("none", chain.fewest(1022, 0), -1);
        RiverIfs pairs = Texts.river("if 24 0 0;if 6 0 0;if 480 0 0;");
        CHECK.same("of as few the least", pairs.fewest(0, 0), 6);
        CHECK.same("besides what is there", pairs.fewest(8, 0), 16);
        CHECK.same("besides what is there", pairs.fewest(448, 0), 32);
        pairs.deny(1, true);
        CHECK.same("not by what is denied", pairs.fewest(0, 0), 24);
        CHECK.same("fewer ahead of less", Texts.river("if 6 0 0;if 512 0 0;").fewest(0, 0), 512);
        CHECK.same("all nine", Texts.river("if 1022 0 0;").fewest(0, 0), 1022);
        CHECK.same("barred", Texts.river("if 2 4 0;").fewest(4, 0), -1);
        CHECK.same("unless comes of nothing", Texts.river("unless 1 0 3;").fewest(0, 3), 0);
        CHECK.same("unless by no more", Texts.river("unless 1 0 3;").fewest(1, 3), -1);
        CHECK.noSuch("thing 10 ahead of things", () -> chain.fewest(1024, 10));
        CHECK.illegal("1024", () -> chain.fewest(1024, 0));
        CHECK.illegal("-1", () -> chain.fewest(-1, 0));
    }

    private static void leads() {
        CHECK.promise("24 leads");
        RiverIfs chain = Texts.river(CHAIN);
        CHECK.same("by one", chain.leads(0, 1), true);
        CHECK.same("by three", chain.leads(0, 3), true);
        CHECK.same("not back", chain.leads(3, 0), false);
        CHECK.same("not to itself", chain.leads(0, 0), false);
        CHECK.same("one of its needs is enough", Texts.river("if 3 0 9;").leads(1, 9), true);
        CHECK.same("by two alike", Texts.river("if 1 0 9;if 1 0 9;").leads(0, 9), true);
        CHECK.same("bars do not lead", Texts.river("if 1 2 9;").leads(1, 9), false);
        CHECK.same("unless has needs, too", Texts.river("unless 1 0 9;").leads(0, 9), true);
        chain.deny(1, true);
        CHECK.same("denied", chain.leads(0, 3), false);
        CHECK.same("ahead of that", chain.leads(0, 1), true);
        StringBuilder nine = new StringBuilder();
        for (int t = 0; t < 10; t++) {
            nine.append("if ").append(1 << t).append(" 0 ").append((t + 1) % 10).append(';');
        }
        RiverIfs ring = Texts.river(nine.toString());
        CHECK.same("by nine", ring.leads(1, 0), true);
        CHECK.same("to itself by ten", ring.leads(4, 4), true);
        CHECK.noSuch("10", () -> chain.leads(10, 0));
        CHECK.noSuch("-1", () -> chain.leads(-1, 0));
        CHECK.noSuch("other 10", () -> chain.leads(0, 10));
        CHECK.noSuch("other -1", () -> chain.leads(0, -1));
    }

    private static void idle() {
        CHECK.promise("5 count, idle");
        CHECK.same("none", Texts.river(CHAIN).count(6), 0);
        CHECK.same("each of two alike", Texts.river("if 1 0 2;if 1 0 2;").count(6), 3);
        RiverIfs denied = Texts.river("if 1 0 2;if 1 0 2;");
        denied.deny(0, true);
        CHECK.same("not the denied, nor the other then", denied.count(6), 0);
        CHECK.same("what says less", Texts.river("if 1 0 2;if 3 0 2;").count(6), 2);
        CHECK.same("what says less, ahead", Texts.river("if 3 0 2;if 1 0 2;").count(6), 1);
        CHECK.same("what never can", Texts.river("if 4 0 2;if 1 1 3;unless 0 0 5;").count(6), 7);
        CHECK.same("by a way between", Texts.river("if 1 0 1;if 2 0 2;if 1 0 2;").count(6), 4);
        CHECK.same("but for a bar", Texts.river("if 1 0 1;if 2 512 2;if 1 0 2;").count(6), 0);
        CHECK.same("not of nothing", Texts.river("if 0 511 9;").count(6), 0);
        CHECK.same("whose turn never comes", Texts.river(BARRED).count(6), 2);
    }

    private static void ringAndEnds() {
        CHECK.promise("5 count, a ring");
        CHECK.same("none", Texts.river(CHAIN).count(8), -1);
        RiverIfs ring = Texts.river(CHAIN + "if 8 0 0;if 8 0 2;");
        CHECK.same("the fewest", ring.count(8), 2);
        ring.deny(4, true);
        CHECK.same("by four", ring.count(8), 4);
        ring.deny(2, true);
        CHECK.same("none", ring.count(8), -1);
        CHECK.same("by one", Texts.river("if 12 0 2;").count(8), 1);
        CHECK.same("of the first thing", Texts.river("if 1 0 0;").count(8), 1);
        CHECK.promise("5 count, ends");
        CHECK.same("chain", Texts.river(CHAIN).count(7), 1);
        CHECK.same("given twice", Texts.river("if 1 0 1;if 4 0 1;if 2 0 5;").count(7), 5);
        RiverIfs ends = Texts.river("if 3 4 5;if 32 0 0;unless 64 0 7;");
        CHECK.same("bars are no needs", ends.count(7), 66);
        ends.deny(1, true);
        CHECK.same("given by a denied one, and not needed by it", ends.count(7), 67);
        ends.deny(0, true);
        CHECK.same("needed by denied ones alone", ends.count(7), 64);
    }

    private static void resting() {
        CHECK.promise("33 resting");
        // Closed under 0, 1, 2, 3 are five of their sixteen sets.
        CHECK.same("chain", Texts.river(CHAIN).resting(), 320);
        CHECK.same("all", new RiverIfs().resting(), 1024);
        CHECK.same("half", Texts.river("if 0 0 3;").resting(), 512);
        CHECK.same("unless", Texts.river("unless 1 0 3;").resting(), 768);
        RiverIfs denied = Texts.river(CHAIN);
        denied.deny(0, true);
        CHECK.same("denied", denied.resting(), 512);
    }

    private static void sets() {
        CHECK.promise("34 sets");
        RiverIfs chain = Texts.river(CHAIN);
        CHECK.same("of one in four", chain.sets(3), 960);
        CHECK.same("of one in two", chain.sets(1), 768);
        CHECK.same("itself alone", chain.sets(0), 512);
        chain.deny(1, true);
        CHECK.same("denied", chain.sets(3), 768);
        CHECK.same("all", Texts.river("if 0 0 3;").sets(3), 1024);
        CHECK.same("barred", Texts.river("if 1 2 3;").sets(3), 640);
        CHECK.noSuch("10", () -> chain.sets(10));
        CHECK.noSuch("-1", () -> chain.sets(-1));
    }

    private static void toDeny() {
        CHECK.promise("35 toDeny");
        RiverIfs chain = Texts.river(CHAIN);
        CHECK.same("the least of three", chain.toDeny(1, 3), 1);
        CHECK.same("the least of two", chain.toDeny(2, 3), 2);
        CHECK.same("it doesn't come", chain.toDeny(0, 3), 0);
        CHECK.same("it is among them", chain.toDeny(9, 3), -1);
        CHECK.same("two", Texts.river(TWO_WAYS).toDeny(1, 2), 3);
        RiverIfs denied = Texts.river(TWO_WAYS);
        denied.deny(0, true);
        CHECK.same("besides", denied.toDeny(1, 2), 2);
        CHECK.same("fewer ahead of less",
                Texts.river("if 1 0 1;if 1 0 2;if 2 0 3;if 4 0 3;if 8 0 9;").toDeny(1, 9), 16);
        StringBuilder twelve = new StringBuilder();
        for (int i = 0; i < 12; i++) {
            twelve.append("if 1 0 9;");
        }
        CHECK.same("all twelve", Texts.river(twelve.toString()).toDeny(1, 9), 4095);
        CHECK.noSuch("thing 10 ahead of things", () -> chain.toDeny(1024, 10));
        CHECK.illegal("1024", () -> chain.toDeny(1024, 0));
        CHECK.illegal("-1", () -> chain.toDeny(-1, 0));
    }

    private static void sources() {
        CHECK.promise("36 sources");
        RiverIfs chain = Texts.river(CHAIN);
        CHECK.same("three", chain.sources(3), 7);
        CHECK.same("one", chain.sources(1), 1);
        CHECK.same("none", chain.sources(0), 0);
        CHECK.same("itself on a ring", Texts.river("if 1 0 1;if 2 0 0;").sources(0), 3);
        chain.deny(1, true);
        CHECK.same("denied", chain.sources(3), 4);
        CHECK.noSuch("10", () -> chain.sources(10));
        CHECK.noSuch("-1", () -> chain.sources(-1));
    }
}
