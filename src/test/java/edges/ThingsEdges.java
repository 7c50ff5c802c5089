/** Edges of what is asked of THINGS and IFS ('==== 3.', promises 20 to 24 and 33 to 36). */
final class ThingsEdges {
    private static final int[] NO_THINGS = {-1, 1024, Integer.MIN_VALUE, Integer.MAX_VALUE};
    private static final int[] NO_THING = {-1, 10, Integer.MIN_VALUE, Integer.MAX_VALUE};
    private static final String CHAIN = "if 1 0 1;if 2 0 2;if 4 0 3;";
    // Two ways from thing 0 to thing 2: at once, and by thing 1.
    private static final String TWO_WAYS = "if 1 0 2;if 1 0 1;if 2 0 2;";

    private final Edges edges;

    ThingsEdges(Edges edges) {
        this.edges = edges;
    }

    void all() {
        comes();
        why();
        needed();
        fewest();
        idle();
        leads();
        ringAndEnds();
        resting();
        sets();
        toDeny();
        sources();
    }

    /** Each THING brings the next one, the last one the first: a ring of ten. */
    private static String ringOfTen() {
        StringBuilder text = new StringBuilder();
        for (int thing = 0; thing < 10; thing++) {
            text.append("if ").append(1 << thing).append(" 0 ").append((thing + 1) % 10).append(';');
        }
        return text.toString();
    }

    /** A call of things and a thing. */
    private interface Asked {
        int of(int things, int thing);
    }

    private void wrong(Asked asked) {
        for (int things : NO_THINGS) {
            edges.illegal("things " + things, () -> asked.of(things, 0));
            edges.illegal("things " + things, () -> asked.of(things, 9));
            for (int thing : NO_THING) {
                edges.noSuch(thing + " ahead of things " + things, () -> asked.of(things, thing));
            }
        }
        for (int thing : NO_THING) {
            edges.noSuch("thing " + thing, () -> asked.of(0, thing));
            edges.noSuch("thing " + thing, () -> asked.of(1023, thing));
        }
    }

    private void comes() {
        edges.of("Promise 20", "IllegalArgumentException: not 0 to 1023 (as everywhere, of THINGS as bits)");
        RiverIfs river = Texts.river("if 0 0 0;if 512 0 8;");
        edges.same("0, 1023, 512", river.comes(0) + " " + river.comes(1023) + " " + river.comes(512),
                "1 1023 769");
        for (int things : NO_THINGS) {
            edges.illegal("things " + things, () -> river.comes(things));
        }
    }

    private void why() {
        edges.of("Terms 3", "WHY a THING comes of some THINGS: by how few IFS, that bring what they GIVE "
                + "one behind the other, in any order, each one as told above when its turn comes (0: it "
                + "is there); none");
        RiverIfs ten = Texts.river(ringOfTen() + "if 0 0 0;");
        edges.same("ten of nothing", ten.why(0, 9), 10);
        edges.same("one of nothing", ten.why(0, 0), 1);
        edges.same("it is there", ten.why(512, 9) + " " + ten.why(1023, 0), "0 0");
        ten.deny(10, true);
        edges.same("nine, all the ring", ten.why(1, 9), 9);
        edges.same("none of nothing", ten.why(0, 9), -1);
        RiverIfs two = Texts.river(TWO_WAYS);
        edges.same("the shorter way", two.why(1, 2), 1);
        two.deny(0, true);
        edges.same("the longer way", two.why(1, 2), 2);
        RiverIfs twelve = Texts.river("if 1 0 9;".repeat(11) + "if 1 0 8;");
        edges.same("the twelfth, ahead of eleven that could, too", twelve.why(1, 8), 1);
        RiverIfs barred = Texts.river("if 1 2 3;if 1 8 1;");
        edges.same("in any order", barred.why(1, 1), 1);
        edges.same("barred", barred.why(9, 1), -1);
        RiverIfs unless = Texts.river("if 1 0 1;unless 3 0 2;");
        edges.same("unless, when its turn comes", unless.why(1, 2) + " " + unless.why(3, 2), "1 -1");
        edges.of("Promise 21", "WHY: how many; NONE: none. IllegalArgumentException (behind "
                + "NoSuchElementException)");
        edges.same("without IFS", new RiverIfs().why(1022, 0) + " " + new RiverIfs().why(1023, 0), "-1 0");
        wrong(two::why);
    }

    private void needed() {
        edges.of("Promise 22", "NEEDED, as bits (0: it doesn't come). IllegalArgumentException (behind "
                + "NoSuchElementException)");
        RiverIfs chain = Texts.river(CHAIN);
        edges.same("all, two, one", chain.needed(1, 3) + " " + chain.needed(2, 3) + " "
                + chain.needed(4, 3), "7 6 4");
        edges.same("it is there", chain.needed(9, 3), 0);
        edges.same("it doesn't come", chain.needed(0, 3), 0);
        RiverIfs two = Texts.river(TWO_WAYS);
        edges.same("none of two ways", two.needed(1, 2), 0);
        wrong(two::needed);
        edges.of("Terms 3", "IFS each of which, were it alone DENIED, would make it not come, though it "
                + "comes now (bits)");
        two.deny(0, true);
        edges.same("the way that is left", two.needed(1, 2), 6);
        two.deny(2, true);
        edges.same("no way is left", two.needed(1, 2), 0);
        RiverIfs twelve = Texts.river("if 512 0 8;".repeat(11) + "if 1 0 9;");
        edges.same("the twelfth", twelve.needed(1, 9), 2048);
        edges.same("one of eleven", twelve.needed(1, 8), 2048);
    }

    private void fewest() {
        edges.of("Terms 3", "THE FEWEST other THINGS than a told one that must be there besides some, so "
                + "that it comes of them all: of as few the least as bits (0: it does); none");
        RiverIfs nine = Texts.river("if 1022 0 0;");
        edges.same("all nine others", nine.fewest(0, 0), 1022);
        edges.same("the one that isn't there", nine.fewest(510, 0), 512);
        edges.same("it comes, it is there", nine.fewest(1022, 0) + " " + nine.fewest(1, 0), "0 0");
        edges.same("not by itself", nine.fewest(0, 5), -1);
        RiverIfs like = Texts.river("if 24 0 0;if 6 0 0;if 40 0 0;");
        edges.same("of as few the least", like.fewest(0, 0), 6);
        edges.same("besides", like.fewest(8, 0), 16);
        edges.same("besides", like.fewest(32, 0), 8);
        RiverIfs fewer = Texts.river("if 6 0 0;if 512 0 0;");
        edges.same("fewer ahead of less", fewer.fewest(0, 0), 512);
        fewer.deny(1, true);
        edges.same("not by a denied one", fewer.fewest(0, 0), 6);
        edges.same("barred by what is there", Texts.river("if 2 4 0;").fewest(4, 0), -1);
        edges.same("of nothing", Texts.river("if 0 0 0;").fewest(0, 0), 0);
        edges.of("Promise 23", "THE FEWEST, as bits; NONE: none. IllegalArgumentException (behind "
                + "NoSuchElementException)");
        edges.same("without IFS", new RiverIfs().fewest(1022, 0) + " " + new RiverIfs().fewest(1, 0),
                "-1 0");
        wrong(nine::fewest);
    }

    private void idle() {
        edges.of("Terms 3", "IDLE: IFS that aren't DENIED, by each of which, were it alone DENIED, what "
                + "comes of any THINGS (all sets) would be as it is (bits)");
        edges.same("of nothing alone it isn't", Texts.river("if 0 511 9;").count(6), 0);
        edges.same("of all others alone it isn't", Texts.river("if 511 0 9;").count(6), 0);
        edges.same("it never can", Texts.river("if 511 256 9;").count(6), 1);
        edges.same("what it GIVES is needed", Texts.river("if 512 0 9;").count(6), 1);
        edges.same("unless without NEEDS", Texts.river("unless 0 0 9;").count(6), 1);
        edges.same("all twelve alike", Texts.river("if 1 0 9;".repeat(12)).count(6), 4095);
        edges.same("another THING would come", Texts.river("if 1 4 1;if 1 2 2;").count(6), 2);
        RiverIfs two = Texts.river("if 1 0 9;if 1 0 9;");
        edges.same("each of two", two.count(6), 3);
        two.deny(1, true);
        edges.same("not the denied one, nor the last one", two.count(6), 0);
        two.deny(0, true);
        edges.same("none is left", two.count(6), 0);
        edges.same("without IFS", new RiverIfs().count(6), 0);
    }

    private void leads() {
        edges.of("Terms 3", "A THING LEADS to another one, if an IF that isn't DENIED has the one in its "
                + "NEEDS and GIVES the other one, or by THINGS between them, each from the one ahead of "
                + "it so");
        RiverIfs ring = Texts.river(ringOfTen());
        edges.same("by one, by nine", ring.leads(0, 1) + " " + ring.leads(0, 9), "true true");
        edges.same("to itself by ten", ring.leads(0, 0) + " " + ring.leads(9, 9), "true true");
        ring.deny(9, true);
        edges.same("not to itself", ring.leads(0, 0) + " " + ring.leads(9, 0), "false false");
        edges.same("by nine still", ring.leads(0, 9), true);
        ring.deny(4, true);
        edges.same("not beyond the denied one", ring.leads(0, 4) + " " + ring.leads(0, 5), "true false");
        RiverIfs one = Texts.river("if 515 0 3;if 0 4 5;unless 16 0 6;");
        edges.same("each of NEEDS", one.leads(0, 3) + " " + one.leads(1, 3) + " " + one.leads(9, 3),
                "true true true");
        edges.same("no other one, none of BARS", one.leads(2, 3) + " " + one.leads(2, 5), "false false");
        edges.same("of an 'unless', too", one.leads(4, 6), true);
        edges.of("Promise 24", "LEADS.");
        for (int thing : NO_THING) {
            edges.noSuch("thing " + thing, () -> ring.leads(thing, 0));
            edges.noSuch("other " + thing, () -> ring.leads(0, thing));
            edges.noSuch("both " + thing, () -> ring.leads(thing, thing));
        }
        edges.same("without IFS", new RiverIfs().leads(0, 9), false);
    }

    private void ringAndEnds() {
        edges.of("Terms 3", "A RING: the fewest IFS by which a THING LEADS to itself; none");
        RiverIfs ring = Texts.river(ringOfTen());
        edges.same("ten", ring.count(8), 10);
        ring.deny(3, true);
        edges.same("none", ring.count(8), -1);
        edges.same("nine, a shorter one", Texts.river(ringOfTen() + "if 512 0 1;").count(8), 9);
        edges.same("one", Texts.river(ringOfTen() + "if 515 0 9;").count(8), 1);
        for (int thing = 0; thing < 10; thing++) {
            edges.same("of " + thing + " alone", Texts.river("if " + (1 << thing) + " 0 " + thing + ";")
                    .count(8), 1);
        }
        edges.same("none without NEEDS", Texts.river("if 0 1 0;").count(8), -1);
        edges.same("none without IFS", new RiverIfs().count(8), -1);
        edges.of("Terms 3", "ENDS: THINGS that no IF that isn't DENIED GIVES, but some NEEDS (bits)");
        RiverIfs ends = Texts.river("if 1 0 1;if 514 0 2;");
        edges.same("0 and 9", ends.count(7), 513);
        ends.deny(0, true);
        edges.same("1, too; 0 isn't needed", ends.count(7), 514);
        ends.deny(1, true);
        edges.same("none", ends.count(7), 0);
        edges.same("none on a ring", Texts.river(ringOfTen()).count(7), 0);
        edges.same("all but one", Texts.river("if 1023 0 5;").count(7), 991);
    }

    private void resting() {
        edges.of("Terms 3", "AT REST: of how many sets of THINGS (all 1024) nothing comes");
        edges.same("all", new RiverIfs().resting(), 1024);
        StringBuilder all = new StringBuilder();
        for (int thing = 0; thing < 10; thing++) {
            all.append("if 0 0 ").append(thing).append(';');
        }
        RiverIfs river = Texts.river(all.toString());
        edges.same("all of them alone", river.resting(), 1);
        river.deny(9, true);
        edges.same("and all but one", river.resting(), 2);
        edges.same("all but the empty one", Texts.river("if 0 1023 9;").resting(), 1023);
        edges.same("all but the fullest but one", Texts.river("if 511 0 9;").resting(), 1023);
    }

    private void sets() {
        edges.of("Terms 3", "SETS of a THING: how many sets of THINGS there are of which it comes, being "
                + "there or not");
        edges.same("itself alone", new RiverIfs().sets(0) + " " + new RiverIfs().sets(9), "512 512");
        edges.same("all", Texts.river("if 0 0 9;").sets(9), 1024);
        edges.same("the empty one, too", Texts.river("if 0 1023 9;").sets(9), 513);
        edges.same("the fullest without it, too", Texts.river("if 511 0 9;").sets(9), 513);
        edges.of("Promise 34", "SETS: how many.");
        RiverIfs river = Texts.river(CHAIN);
        for (int thing : NO_THING) {
            edges.noSuch("thing " + thing, () -> river.sets(thing));
        }
    }

    private void toDeny() {
        edges.of("Terms 3", "TO DENY: the fewest IFS that must be DENIED besides, so that a THING doesn't "
                + "come of some THINGS: as bits, of as few the least; none, if it is among them");
        RiverIfs twelve = Texts.river("if 1 0 9;".repeat(12));
        edges.same("all twelve", twelve.toDeny(1, 9), 4095);
        twelve.deny(0, true);
        twelve.deny(11, true);
        edges.same("besides", twelve.toDeny(1, 9), 2046);
        RiverIfs chain = Texts.river(CHAIN);
        edges.same("of as few the least", chain.toDeny(1, 3) + " " + chain.toDeny(2, 3), "1 2");
        RiverIfs fewer = Texts.river("if 1 0 1;if 1 0 2;if 2 0 3;if 4 0 3;if 8 0 9;");
        edges.same("fewer ahead of less", fewer.toDeny(1, 9), 16);
        edges.same("two, the least", fewer.toDeny(1, 3), 3);
        edges.same("it is among them", chain.toDeny(8, 3) + " " + chain.toDeny(1023, 0), "-1 -1");
        edges.of("Promise 35", "TO DENY, as bits (0: it doesn't come); NONE: none. "
                + "IllegalArgumentException (behind NoSuchElementException)");
        edges.same("it doesn't come", chain.toDeny(0, 3) + " " + chain.toDeny(1022, 0), "0 0");
        edges.same("without IFS", new RiverIfs().toDeny(1022, 0) + " " + new RiverIfs().toDeny(1, 0),
                "0 -1");
        wrong(chain::toDeny);
    }

    private void sources() {
        edges.of("Terms 3", "SOURCES of a THING: THINGS that LEAD to it (bits)");
        RiverIfs ring = Texts.river(ringOfTen());
        edges.same("all, itself, too", ring.sources(0) + " " + ring.sources(9), "1023 1023");
        ring.deny(9, true);
        edges.same("none, all others", ring.sources(0) + " " + ring.sources(9), "0 511");
        edges.of("Promise 36", "SOURCES, as bits.");
        for (int thing : NO_THING) {
            edges.noSuch("thing " + thing, () -> ring.sources(thing));
        }
    }
}
