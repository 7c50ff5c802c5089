/** Edges of what comes, of a SUNDAY and of ACTS ('==== 2.', promises 5 to 14). */
final class StateEdges {
    private final Edges edges;

    StateEdges(Edges edges) {
        this.edges = edges;
    }

    void all() {
        whatComes();
        unless();
        banks();
        whoWants();
        whoGoes();
        whoCrosses();
        whoStays();
        counts();
        worthsAndIfs();
        people();
        sundays();
        has();
        miss();
        deny();
        theBridge();
        actsKept();
        undo();
    }

    private void whatComes() {
        edges.of("Terms 2", "the first IF that isn't DENIED, of which all NEEDS are there, none of BARS,"
                + " and GIVES isn't there, brings GIVES, until there is no such one");
        StringBuilder ten = new StringBuilder();
        for (int thing = 9; thing >= 0; thing--) {
            ten.append("if ").append(thing == 0 ? 0 : 1 << thing - 1).append(" 0 ").append(thing)
                    .append(';');
        }
        RiverIfs river = Texts.river(ten.toString());
        edges.same("all of nothing, one by one", river.comes(0), 1023);
        river.deny(9, true);
        edges.same("nothing of nothing", river.comes(0), 0);
        edges.same("nine of one", river.comes(1), 1023);
        river.deny(5, true);
        edges.same("up to the denied one", river.comes(1), 15);
        RiverIfs needs = Texts.river("if 3 12 9;");
        edges.same("one of NEEDS, all of them", needs.comes(1) + " " + needs.comes(3), "1 515");
        edges.same("one of BARS, the other one", needs.comes(7) + " " + needs.comes(11), "7 11");
        edges.same("GIVES is there", needs.comes(515), 515);
        RiverIfs first = Texts.river("if 1 4 1;if 1 2 2;");
        edges.same("the first one", first.comes(1), 3);
        first.deny(0, true);
        edges.same("the first that isn't denied", first.comes(1), 5);
        RiverIfs again = Texts.river("if 4 0 3;if 1 0 2;if 1 8 4;");
        edges.same("from the first one again", again.comes(1), 13);
        edges.same("an IF without NEEDS and BARS", Texts.river("if 0 0 9;").comes(0), 512);
        edges.same("all NEEDS", Texts.river("if 511 0 9;").comes(511), 1023);
        edges.same("all NEEDS but one", Texts.river("if 511 0 9;").comes(510), 510);
        edges.same("what it GIVES is in BARS", Texts.river("if 1 512 9;").comes(1), 513);
    }

    private void unless() {
        edges.of("Terms 2", "of an 'unless' IF not all NEEDS must be there (BARS none, likewise)");
        RiverIfs river = Texts.river("unless 3 12 9;");
        int[][] due = {{0, 512}, {1, 513}, {2, 514}, {3, 3}, {4, 4}, {8, 8}, {5, 5}, {512, 512}};
        for (int[] one : due) {
            edges.same("of " + one[0], river.comes(one[0]), one[1]);
        }
        edges.same("without NEEDS all are there", Texts.river("unless 0 0 9;").comes(0), 0);
        edges.same("what it GIVES is in NEEDS", Texts.river("unless 512 0 9;").comes(0), 512);
        RiverIfs all = Texts.river("unless 1023 0 9;");
        edges.same("all but one, all", all.comes(511) + " " + all.comes(1023), "1023 1023");
    }

    private void banks() {
        edges.of("Terms 2", "SPARED BANK is what comes of HAS without SPARED. (HAS here is as it is: "
                + "nothing comes of it.)");
        RiverIfs river = Texts.river("if 1 0 1;person 1 2 0 0;person 1 0 9 0;person 3 9 1 0;");
        edges.same("has", river.person(0, 0) + " " + river.person(1, 0), "1 1");
        edges.same("there", river.person(0, 5) + " " + river.person(1, 5) + " " + river.person(2, 5),
                "7 3 515");
        edges.same("spared of all, of what one hasn't, of what comes again", river.person(0, 6) + " "
                + river.person(1, 6) + " " + river.person(2, 6), "0 3 3");
    }

    private void whoWants() {
        edges.of("Terms 2", "CROSSES gives more than 0 (without it: LONGING is 10 or more)");
        RiverIfs without = Texts.river("person 0 0 0 9;person 0 0 0 10;person 0 0 0 11;"
                + "person 0 0 0 0;person 0 0 0 99;");
        edges.same("9, 10, 11, 0, 99", row(without, 7), "0 1 1 0 1 ");
        edges.same("they go", without.crossing(1), 22);
        edges.same("0", row(Texts.river("person 0 0 0 99;crosses 0;"), 7), "0 ");
        edges.same("1", row(Texts.river("person 0 0 0 0;crosses 1;"), 7), "1 ");
        edges.same("-1", row(Texts.river("person 0 0 0 99;crosses 0-1;"), 7), "0 ");
        edges.same("longing - 9", row(Texts.river("person 0 0 0 8;person 0 0 0 9;person 0 0 0 10;"
                + "crosses longing-9;"), 7), "0 0 1 ");
    }

    private void whoGoes() {
        edges.of("Terms 2", "by LONGING (the greatest first, of like ones the least), as many as THE "
                + "BRIDGE bears");
        String four = "person 0 0 0 20;person 0 0 0 30;person 0 0 0 20;person 0 0 0 30;";
        int[] due = {2, 10, 11, 15, 15, 15, 15, 15};
        for (int bears = 1; bears <= 8; bears++) {
            RiverIfs river = Texts.river(four + "bridge " + bears + ";");
            edges.same("borne by " + bears, river.crossing(1), due[bears - 1]);
            river.sundays(1);
            edges.same("crossed by " + bears, river.count(4), due[bears - 1]);
        }
        edges.same("eight", Texts.river("person 0 0 0 10;".repeat(8) + "bridge 8;").crossing(1), 255);
        edges.same("four of eight", Texts.river("person 0 0 0 10;".repeat(8)).crossing(1), 15);
        edges.same("nobody", Texts.river("person 0 0 0 9;").crossing(1), 0);
    }

    private void whoCrosses() {
        edges.of("Terms 2", "LONGING less by the WORTH of THERE less that of HAS, if that is more than 0 "
                + "(not below 0)");
        String worths = "worth 0 1;worth 1 - 1;worth 2 9;worth 4 - 9;crosses 1;bridge 8;";
        RiverIfs river = Texts.river(worths + "person 0 0 0 7;person 0 1 0 7;person 0 3 0 7;"
                + "person 0 2 0 9;person 0 2 0 10;person 0 2 0 8;person 4 2 0 50;person 0 4 0 50;");
        river.sundays(1);
        edges.same("by 1, -1, 0, 9 of 9, of 10, of 8, nothing new, -9", row(river, 3),
                "6 7 7 0 1 0 50 50 ");
        edges.of("Terms 2", "and a FLOWER more (99 at most), if THERE has a THING that one hasn't");
        edges.same("a THING of no worth, too; none without", row(river, 4), "1 1 1 1 1 1 0 1 ");
        for (int i = 0; i < 4; i++) {
            river.sundays(20);
        }
        river.sundays(17);
        edges.same("98", row(river, 4), "98 98 98 98 98 98 0 98 ");
        river.sundays(1);
        edges.same("99", row(river, 4), "99 99 99 99 99 99 0 99 ");
        river.sundays(1);
        edges.same("99 at most", row(river, 4), "99 99 99 99 99 99 0 99 ");
    }

    private void whoStays() {
        edges.of("Terms 2", "Each other one has LONGING more by how many THINGS THERE has that one "
                + "hasn't, and 1 (99 at most)");
        RiverIfs river = Texts.river("if 1 0 1;if 2 0 2;person 0 0 0 0;person 0 5 0 0;person 1 0 0 0;"
                + "person 7 0 0 0;person 1 5 0 96;person 7 5 0 97;person 7 5 0 98;person 7 0 0 99;"
                + "crosses 0;");
        river.sundays(1);
        edges.same("by 4, 2, 3, 1, 4 of 3 left, 2 of 2, 2 of 1, 1 of none", row(river, 3),
                "4 2 3 1 99 99 99 99 ");
        edges.same("no flower", row(river, 4), "0 0 0 0 0 0 0 0 ");
        RiverIfs all = Texts.river("if 1 0 1;if 1 0 2;if 1 0 3;if 1 0 4;if 1 0 5;if 1 0 6;if 1 0 7;"
                + "if 1 0 8;if 1 0 9;person 0 0 0 0;");
        all.sundays(1);
        edges.same("all ten, and 1", all.person(0, 3), 11);
        edges.of("Terms 2", "The SUNDAY is one more then");
        edges.same("one", all.count(3), 1);
        edges.same("20 more", all.sundays(20), 21);
    }

    private void counts() {
        edges.of("Promise 5", "0 PEOPLE, 1 IFS, 2 what THE BRIDGE bears, 3 the SUNDAY, 4 who crossed on "
                + "the SUNDAY ahead (bits; 0 at first), 5 IFS that are DENIED (bits), 6 IDLE (bits), "
                + "7 ENDS (bits), 8 A RING (NONE: none), 9 ACTS that are kept, 10 SEEN, 11 bytes of the "
                + "tape, 12 to 14 STATUS 0 to 2");
        RiverIfs river = Texts.river("person 0 0 0 10;person 0 0 0 9;if 6 0 0;if 1 0 1;if 1 0 1;bridge 3;");
        edges.same("at first", counts(river), "2 3 3 0 0 0 6 4 2 0 0 0 0 0 0 ");
        river.sundays(1);
        river.deny(0, true);
        river.see(1, 1, true);
        Texts.shore(river, "x");
        river.bridge(9);
        river.bridge(0);
        for (int i = 0; i < 10; i++) {
            river.see(0, 0, true);
        }
        Texts.feed(river, "x");
        edges.same("then", counts(river), "2 3 3 1 1 1 6 1 -1 2 8 20 1 2 3 ");
        edges.same("of nobody", counts(new RiverIfs()), "0 0 4 0 0 0 0 0 -1 0 0 0 0 0 0 ");
        edges.of("Promise 5", "NoSuchElementException: another what");
        for (int what : new int[] {-1, 15, 16, Integer.MIN_VALUE, Integer.MAX_VALUE}) {
            edges.noSuch("what " + what, () -> river.count(what));
        }
    }

    private static String counts(RiverIfs river) {
        StringBuilder all = new StringBuilder();
        for (int what = 0; what < 15; what++) {
            all.append(river.count(what)).append(' ');
        }
        return all.toString();
    }

    private void worthsAndIfs() {
        edges.of("Promise 6", "NoSuchElementException: no such THING (as everywhere)");
        RiverIfs river = Texts.river("worth 9 -9;worth 0 9;if 0 1023 0;unless 1023 0 9;");
        edges.same("0, 9", river.worth(0) + " " + river.worth(9), "9 -9");
        for (int thing : new int[] {-1, 10, Integer.MIN_VALUE, Integer.MAX_VALUE}) {
            edges.noSuch("thing " + thing, () -> river.worth(thing));
        }
        edges.of("Promise 7", "0 NEEDS, 1 BARS, 2 GIVES, 3 whether 'unless' (1), 4 whether DENIED (1)");
        river.deny(0, true);
        edges.same("the first", river.conditional(0, 0) + " " + river.conditional(0, 1) + " "
                + river.conditional(0, 2) + " " + river.conditional(0, 3) + " "
                + river.conditional(0, 4), "0 1023 0 0 1");
        edges.same("the last", river.conditional(1, 0) + " " + river.conditional(1, 1) + " "
                + river.conditional(1, 2) + " " + river.conditional(1, 3) + " "
                + river.conditional(1, 4), "1023 0 9 1 0");
        edges.of("Promise 7", "NoSuchElementException: no such IF (as everywhere), what");
        for (int wrong : new int[] {-1, 2, 12, Integer.MIN_VALUE, Integer.MAX_VALUE}) {
            edges.noSuch("if " + wrong, () -> river.conditional(wrong, 0));
        }
        for (int what : new int[] {-1, 5, Integer.MIN_VALUE, Integer.MAX_VALUE}) {
            edges.noSuch("what " + what, () -> river.conditional(1, what));
        }
    }

    private void people() {
        edges.of("Promise 8", "0 HAS, 1 MISSED, 2 SPARED, 3 LONGING, 4 FLOWERS, 5 THERE, 6 SPARED BANK "
                + "(bits), 7 whether one wants to cross on the next SUNDAY (1)");
        RiverIfs river = Texts.river("if 4 0 3;if 1 0 5;person 0 2 9 9;person 1023 9 0 10;");
        edges.same("the first", of(river, 0), "0 2 9 9 0 12 0 0 ");
        edges.same("the last", of(river, 1), "1023 9 0 10 0 1023 1022 1 ");
        river.sundays(1);
        edges.same("the first, a SUNDAY on", of(river, 0), "0 2 9 12 0 12 0 1 ");
        edges.same("the last, who crossed", of(river, 1), "1023 9 0 10 0 1023 1022 1 ");
        edges.of("Promise 8", "NoSuchElementException: no such PERSON (as everywhere), what");
        for (int wrong : new int[] {-1, 2, 8, Integer.MIN_VALUE, Integer.MAX_VALUE}) {
            edges.noSuch("person " + wrong, () -> river.person(wrong, 0));
        }
        for (int what : new int[] {-1, 8, Integer.MIN_VALUE, Integer.MAX_VALUE}) {
            edges.noSuch("what " + what, () -> river.person(1, what));
        }
    }

    private static String of(RiverIfs river, int person) {
        StringBuilder all = new StringBuilder();
        for (int what = 0; what < 8; what++) {
            all.append(river.person(person, what)).append(' ');
        }
        return all.toString();
    }

    private void sundays() {
        edges.of("Terms 2", "SUNDAYS go by (1 to 20)");
        RiverIfs river = Texts.river("person 0 0 0 0;");
        edges.same("1", river.sundays(1), 1);
        edges.same("20", river.sundays(20), 21);
        edges.of("Promise 9", "NONE (STATUS 1): not 1 to 20");
        int refused = 0;
        for (int many : new int[] {0, 21, -1, Integer.MIN_VALUE, Integer.MAX_VALUE}) {
            edges.same("many " + many, river.sundays(many), -1);
            refused++;
            edges.same("status", river.count(13), refused);
        }
        edges.same("nothing goes by, no ACT", river.count(3) + " " + river.count(9), "21 2");
        edges.of("Promise 9", "it would be above 999");
        for (int i = 0; i < 48; i++) {
            river.sundays(20);
        }
        edges.same("981", river.count(3), 981);
        edges.same("1001", river.sundays(20), -1);
        edges.same("1000", river.sundays(19), -1);
        edges.same("status, and nothing goes by", river.count(13) + " " + river.count(3), "7 981");
        edges.same("999", river.sundays(18), 999);
        edges.same("one more", river.sundays(1), -1);
        edges.same("status", river.count(13) + " " + river.count(3), "8 999");
        edges.same("one is undone", river.undo() + " " + river.count(3), "39 981");
        edges.same("998", river.sundays(17), 998);
        edges.same("1000", river.sundays(2), -1);
        edges.same("999", river.sundays(1), 999);
    }

    private void has() {
        edges.of("Promise 10", "GETS, LOSES: HAS then. NONE (STATUS 1): it is so already");
        RiverIfs river = Texts.river("person 0 0 0 0;person 1023 0 0 0;");
        edges.same("the first of none", river.has(0, 0, true), 1);
        edges.same("the last", river.has(0, 9, true), 513);
        edges.same("again", river.has(0, 9, true), -1);
        edges.same("what one hasn't", river.has(0, 5, false), -1);
        edges.same("the last of all", river.has(1, 9, false), 511);
        edges.same("again", river.has(1, 9, false), -1);
        edges.same("what one has", river.has(1, 0, true), -1);
        edges.same("status, acts", river.count(13) + " " + river.count(9), "4 3");
        edges.same("all stays", river.person(0, 0) + " " + river.person(1, 0), "513 511");
        edges.same("to nothing", river.has(0, 0, false) + " " + river.has(0, 9, false), "512 0");
    }

    private void miss() {
        edges.of("Promise 11", "MISSED is another one: as it was. NONE (STATUS 1): it is that one");
        RiverIfs river = Texts.river("person 0 0 0 0;person 0 9 0 0;");
        edges.same("it is that one", river.miss(0, 0) + " " + river.miss(1, 9), "-1 -1");
        edges.same("status, acts", river.count(13) + " " + river.count(9), "2 0");
        edges.same("as it was", river.miss(0, 9) + " " + river.miss(1, 0), "0 9");
        edges.same("again", river.miss(0, 9), -1);
        edges.same("status, acts", river.count(13) + " " + river.count(9), "3 2");
        edges.same("missed", river.person(0, 1) + " " + river.person(1, 1), "9 0");
    }

    private void deny() {
        edges.of("Promise 12", "DENIED, or holds again: true. False (STATUS 1): it is so already");
        RiverIfs river = Texts.river("if 1 0 1;".repeat(12));
        edges.same("it holds", river.deny(0, false) + " " + river.deny(11, false), "false false");
        edges.same("denied", river.deny(0, true) + " " + river.deny(11, true), "true true");
        edges.same("bits", river.count(5), 2049);
        edges.same("it is denied", river.deny(0, true) + " " + river.deny(11, true), "false false");
        edges.same("status, acts", river.count(13) + " " + river.count(9), "4 2");
        edges.same("it holds again", river.deny(11, false) + " " + river.count(5), "true 1");
        edges.noSuch("no such IF", () -> river.deny(12, true));
        edges.noSuch("no such IF", () -> river.deny(-1, false));
        edges.same("these are no refused ACTS", river.count(13), 4);
    }

    private void theBridge() {
        edges.of("Promise 13", "THE BRIDGE: what it bore. NONE (STATUS 1): not 1 to 8");
        RiverIfs river = new RiverIfs();
        edges.same("without a text", river.bridge(1), 4);
        edges.same("bore 1", river.bridge(8), 1);
        int refused = 0;
        for (int bears : new int[] {0, 9, -1, Integer.MIN_VALUE, Integer.MAX_VALUE}) {
            edges.same("bears " + bears, river.bridge(bears), -1);
            refused++;
            edges.same("status", river.count(13), refused);
        }
        edges.same("it stays, no ACT", river.count(2) + " " + river.count(9), "8 2");
        edges.same("as it bears", river.bridge(8), 8);
        edges.same("that is not refused", river.count(13), 5);
    }

    private void actsKept() {
        edges.of("Terms 2", "ACTS (at most 40 are kept, the latest ones)");
        RiverIfs river = Texts.river("person 0 0 0 0;");
        for (int i = 1; i <= 40; i++) {
            river.sundays(1);
            edges.same("kept", river.count(9), i);
        }
        for (int left = 39; left >= 0; left--) {
            edges.same("undone", river.undo() + " " + river.count(3), left + " " + left);
        }
        edges.same("all are undone", river.undo() + " " + river.count(3), "-1 0");
        for (int i = 1; i <= 41; i++) {
            river.sundays(1);
        }
        edges.same("still forty", river.count(9), 40);
        for (int left = 39; left >= 0; left--) {
            edges.same("undone", river.undo() + " " + river.count(3), left + " " + (left + 1));
        }
        edges.same("the earliest stays", river.undo() + " " + river.count(3), "-1 1");
    }

    private void undo() {
        edges.of("Promise 14", "The last ACT is UNDONE: how many are left. NONE: there is none");
        RiverIfs river = Texts.river("person 0 0 0 10;if 1 0 1;");
        edges.same("none", river.undo(), -1);
        river.has(0, 0, false);
        river.miss(0, 0);
        river.deny(0, false);
        river.bridge(0);
        river.sundays(0);
        edges.same("what is refused is none", river.undo(), -1);
        edges.same("status is of the refused ones alone", river.count(13), 5);
        river.bridge(1);
        edges.same("none is left", river.undo() + " " + river.count(2), "0 4");
        edges.same("none", river.undo(), -1);
        edges.same("status", river.count(13), 5);
        edges.of("Terms 2", "They are UNDONE, the last one first");
        river.has(0, 9, true);
        river.miss(0, 3);
        river.deny(0, true);
        river.bridge(2);
        river.sundays(20);
        edges.same("sundays", river.undo() + " " + of(river, 0) + river.count(3) + river.count(4),
                "4 512 3 0 10 0 520 512 1 00");
        edges.same("bridge", river.undo() + " " + river.count(2) + river.count(5), "3 41");
        edges.same("denied", river.undo() + " " + river.count(5) + river.person(0, 1), "2 03");
        edges.same("missed", river.undo() + " " + river.person(0, 1) + river.person(0, 0), "1 0512");
        edges.same("has", river.undo() + " " + river.person(0, 0), "0 0");
        undoOfEight();
    }

    /** Of eight, of whom each has and longs for something else, all is undone. */
    private void undoOfEight() {
        StringBuilder text = new StringBuilder("if 1 0 1;bridge 8;crosses 1-last;");
        for (int i = 0; i < 8; i++) {
            text.append("person ").append(100 + i).append(" 9 ").append(i).append(' ').append(30 + i)
                    .append(";");
        }
        RiverIfs river = Texts.river(text.toString());
        river.deny(0, true);
        river.sundays(7);
        String before = row(river, 0) + row(river, 1) + row(river, 3) + row(river, 4) + counts(river);
        edges.same("crossed, flowers", river.count(4) + " " + row(river, 4), "255 4 4 4 4 4 4 4 4 ");
        for (int i = 0; i < 8; i++) {
            river.has(i, 9, true);
            river.miss(i, i);
        }
        river.deny(0, false);
        river.bridge(1);
        river.sundays(2);
        edges.same("otherwise", row(river, 3).equals(row(Texts.river(text.toString()), 3)), false);
        for (int left = 20; left >= 2; left--) {
            edges.same("undo", river.undo(), left);
        }
        edges.same("all", row(river, 0) + row(river, 1) + row(river, 3) + row(river, 4)
                + counts(river), before);
        edges.same("the next SUNDAY, by who crossed on the last one", river.crossing(1), 0);
        river.undo();
        edges.same("longing, flowers", row(river, 3) + row(river, 4),
                "30 31 32 33 34 35 36 37 0 0 0 0 0 0 0 0 ");
    }

    private static String row(RiverIfs river, int what) {
        StringBuilder row = new StringBuilder();
        for (int person = 0; person < river.count(0); person++) {
            row.append(river.person(person, what)).append(' ');
        }
        return row.toString();
    }
}
