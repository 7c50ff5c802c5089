/** Edges of what is asked of PEOPLE ('==== 3.', promises 25 to 32). */
final class PeopleEdges {
    private static final int[] NO_PERSON = {-1, 8, Integer.MIN_VALUE, Integer.MAX_VALUE};
    private static final int[] WRONG = {-1, Integer.MIN_VALUE, Integer.MAX_VALUE};
    // Eight PEOPLE, each having one THING and missing thing 9: THERE two THINGS each.
    private static final String EIGHT = "person 1 9 0 0;person 2 9 0 0;person 4 9 0 0;person 8 9 0 0;"
            + "person 16 9 0 0;person 32 9 0 0;person 64 9 0 0;person 128 9 0 0;";

    private final Edges edges;

    PeopleEdges(Edges edges) {
        this.edges = edges;
    }

    void all() {
        like();
        toSend();
        happiest();
        critical();
        bestMissed();
        commonAndApart();
        unhad();
    }

    /** A call of one of PEOPLE. */
    private interface Asked {
        int of(int person);
    }

    private void noSuchPerson(Asked asked) {
        for (int person : NO_PERSON) {
            edges.noSuch("person " + person, () -> asked.of(person));
        }
    }

    private void like() {
        edges.of("Terms 3", "LIKE: PEOPLE whose THERE is just that of one (bits; itself, too)");
        RiverIfs eight = Texts.river(EIGHT);
        edges.same("itself alone", eight.like(0, 0) + " " + eight.like(7, 0), "1 128");
        edges.same("all", Texts.river("person 1 1 0 0;person 2 0 9 5;person 3 0 0 0;").like(1, 0), 7);
        RiverIfs byIf = Texts.river("if 1 0 1;person 0 0 0 0;person 3 0 0 0;person 1 2 0 0;");
        edges.same("not one that has more", byIf.like(0, 0) + " " + byIf.like(2, 0), "3 4");
        edges.of("Terms 3", "NEIGHBOURS: PEOPLE here whose HAS is the THERE of one (bits)");
        edges.same("none", eight.like(0, 1) + " " + eight.like(7, 1), "0 0");
        edges.same("the other one", byIf.like(0, 1) + " " + byIf.like(1, 1), "2 2");
        edges.same("itself, having all", Texts.river("person 1023 0 0 0;").like(0, 1), 1);
        edges.of("Promise 25", "LIKE (what 0), NEIGHBOURS (1), as bits. NoSuchElementException: also "
                + "another what");
        noSuchPerson(person -> eight.like(person, 0));
        noSuchPerson(person -> eight.like(person, 1));
        edges.noSuch("what 2", () -> eight.like(0, 2));
        for (int what : WRONG) {
            edges.noSuch("what " + what, () -> eight.like(7, what));
        }
    }

    private void toSend() {
        edges.of("Terms 3", "TO SEND: so many PEOPLE (0 to 8) whose THERE has most THINGS, all together "
                + "(each counted once): of like ones the least as bits");
        RiverIfs eight = Texts.river(EIGHT);
        int[] due = {0, 1, 3, 7, 15, 31, 63, 127, 255};
        for (int many = 0; many <= 8; many++) {
            edges.same("send " + many, eight.toSend(many), due[many]);
        }
        RiverIfs once = Texts.river("person 7 0 0 0;person 3 0 0 0;person 8 8 0 0;person 256 8 0 0;");
        edges.same("most", once.toSend(1), 1);
        edges.same("each counted once", once.toSend(2), 5);
        once.has(3, 9, true);
        edges.same("of like ones the least", once.toSend(2), 5);
        once.has(3, 7, true);
        edges.same("more", once.toSend(2), 9);
        edges.of("Promise 26", "TO SEND, as bits; NONE: there are not so many. IllegalArgumentException: "
                + "not 0 to 8");
        edges.same("four, five, eight of four", once.toSend(4) + " " + once.toSend(5) + " "
                + once.toSend(8), "15 -1 -1");
        edges.same("none, one of nobody", new RiverIfs().toSend(0) + " " + new RiverIfs().toSend(1),
                "0 -1");
        edges.illegal("9", () -> eight.toSend(9));
        edges.illegal("9 of nobody", () -> new RiverIfs().toSend(9));
        for (int many : WRONG) {
            edges.illegal("many " + many, () -> eight.toSend(many));
        }
    }

    private void happiest() {
        edges.of("Terms 3", "HAPPIEST: who has most WORTH here (what 0), there (1), on the SPARED BANK (2);"
                + " of like ones the least; none");
        String worths = "worth 0 1;worth 1 - 1;worth 2 5;worth 3 - 5;";
        RiverIfs river = Texts.river(worths + "person 1 3 0 0;person 0 2 9 0;person 10 1 3 0;"
                + "person 8 3 3 0;");
        edges.same("1 0 -6 -5, -4 5 -6 -5, 0 0 -1 0", river.happiest(0) + " " + river.happiest(1) + " "
                + river.happiest(2), "0 1 0");
        RiverIfs like = Texts.river(worths + "person 8 3 9 0;person 2 1 9 0;person 2 1 9 0;");
        edges.same("below 0, of like ones the least", like.happiest(0) + " " + like.happiest(1) + " "
                + like.happiest(2), "1 1 1");
        edges.same("the last of eight", Texts.river("worth 7 1;" + EIGHT).happiest(0), 7);
        edges.same("all alike", Texts.river(EIGHT).happiest(1), 0);
        edges.of("Promise 27", "HAPPIEST; NONE: nobody. NoSuchElementException: another what");
        for (int what = 0; what < 3; what++) {
            edges.same("nobody", new RiverIfs().happiest(what), -1);
        }
        edges.noSuch("what 3", () -> river.happiest(3));
        edges.noSuch("what 3 of nobody", () -> new RiverIfs().happiest(3));
        for (int what : WRONG) {
            edges.noSuch("what " + what, () -> river.happiest(what));
        }
    }

    private void critical() {
        edges.of("Terms 3", "CRITICAL for one: IFS that aren't DENIED, by each of which, were it alone "
                + "DENIED, THERE would be otherwise (bits)");
        RiverIfs river = Texts.river("if 1 0 1;if 1 0 2;if 2 0 2;if 4 0 3;person 0 0 0 0;"
                + "person 0 9 0 0;person 15 0 0 0;");
        edges.same("not either of two ways", river.critical(0), 9);
        edges.same("none", river.critical(1) + " " + river.critical(2), "0 0");
        river.deny(1, true);
        edges.same("the way that is left, not the denied one", river.critical(0), 13);
        RiverIfs other = Texts.river("if 1 4 1;if 1 2 2;person 0 0 0 0;");
        edges.same("as many, but otherwise", other.critical(0), 1);
        RiverIfs twelfth = Texts.river("if 512 0 8;".repeat(11) + "if 1 0 1;person 0 0 0 0;");
        edges.same("the twelfth", twelfth.critical(0), 2048);
        edges.of("Promise 28", "CRITICAL, as bits.");
        noSuchPerson(river::critical);
        edges.noSuch("the one behind the last", () -> river.critical(3));
    }

    private void bestMissed() {
        edges.of("Terms 3", "BEST MISSED for one: the THING by which, were it MISSED, WORTH of THERE would "
                + "be most (of like ones the least)");
        edges.same("all alike", Texts.river("person 0 9 0 0;").bestMissed(0), 0);
        for (int thing = 0; thing < 10; thing++) {
            edges.same("thing " + thing, Texts.river("worth " + thing + " 1;person 0 0 0 0;")
                    .bestMissed(0), thing);
        }
        edges.same("all others are worse", Texts.river("worth 0 - 1;worth 1 - 1;worth 2 - 1;person 0 0 0 0;")
                .bestMissed(0), 3);
        RiverIfs river = Texts.river("worth 3 4;worth 5 4;worth 1 - 1;if 2 0 3;if 64 0 5;person 0 0 0 0;"
                + "person 8 0 0 0;person 40 0 0 0;");
        edges.same("of like ones the least, by an IF", river.bestMissed(0) + " " + river.bestMissed(1),
                "3 5");
        edges.same("what one has is no worse", river.bestMissed(2), 0);
        edges.of("Promise 29", "BEST MISSED.");
        noSuchPerson(river::bestMissed);
        edges.noSuch("the one behind the last", () -> river.bestMissed(3));
    }

    private void commonAndApart() {
        edges.of("Promise 30", "THINGS that both have THERE, as bits.");
        RiverIfs eight = Texts.river(EIGHT);
        edges.same("one", eight.common(0, 7), 512);
        edges.same("one with oneself", eight.common(7, 7), 640);
        edges.same("none", Texts.river("person 0 0 0 0;person 0 1 0 0;").common(0, 1), 0);
        edges.same("all", Texts.river("person 1023 0 0 0;person 1023 1 0 0;").common(0, 1), 1023);
        noSuchPerson(person -> eight.common(person, 0));
        noSuchPerson(person -> eight.common(0, person));
        edges.of("Promise 31", "How many THINGS one of both has THERE, the other one not.");
        edges.same("two", eight.apart(0, 7) + " " + eight.apart(7, 0), "2 2");
        edges.same("none from oneself", eight.apart(7, 7), 0);
        edges.same("all", Texts.river("person 511 0 0 0;person 0 9 0 0;").apart(0, 1), 10);
        noSuchPerson(person -> eight.apart(person, 7));
        noSuchPerson(person -> eight.apart(7, person));
    }

    private void unhad() {
        edges.of("Promise 32", "THINGS that nobody has THERE, as bits.");
        edges.same("all", new RiverIfs().unhad(), 1023);
        edges.same("all but one", Texts.river("person 0 9 0 0;").unhad(), 511);
        edges.same("one", Texts.river(EIGHT).unhad(), 256);
        edges.same("none", Texts.river(EIGHT + "if 128 0 8;").unhad(), 0);
        edges.same("the last one has it", Texts.river("person 0 0 0 0;".repeat(7) + "person 1022 0 0 0;")
                .unhad(), 0);
    }
}
