/** Edges of what is SEEN, STATUS and AN IMAGE ('==== 4.', promises 39 to 42, 45 and 46). */
final class SeenEdges {
    private static final int[] WRONG = {-1, Integer.MIN_VALUE, Integer.MAX_VALUE};
    private static final String TWO = "if 2 0 3;person 1 0 0 0;person 0 0 0 0;";

    private final Edges edges;

    SeenEdges(Edges edges) {
        this.edges = edges;
    }

    void all() {
        see();
        tells();
        look();
        forget();
        status();
        image();
        restore();
    }

    private void see() {
        edges.of("Terms 4", "SEEN (at most 8): that one has a THING THERE, or hasn't");
        RiverIfs river = Texts.river(TWO);
        for (int many = 1; many <= 8; many++) {
            edges.same("see", river.see(many % 2, many, true), many);
            edges.same("how much is", river.count(10), many);
        }
        edges.of("Promise 39", "SEEN: how much is. NONE (STATUS 2): there are 8");
        edges.same("status of eight", river.count(14), 0);
        edges.same("the ninth", river.see(0, 0, true), -1);
        edges.same("the tenth", river.see(1, 9, false), -1);
        edges.same("status, seen", river.count(14) + " " + river.count(10), "2 8");
        edges.same("no ACTS", river.count(9) + " " + river.count(13), "0 0");
        river.forget();
        edges.same("room again", river.see(0, 9, false), 1);
        edges.same("the same once more", river.see(0, 9, false), 2);
        edges.of("Promise 39", "NoSuchElementException (ahead): no such PERSON, THING");
        for (int i = 0; i < 6; i++) {
            river.see(0, 0, true);
        }
        edges.noSuch("person 2, though there are 8", () -> river.see(2, 0, true));
        edges.noSuch("thing 10, though there are 8", () -> river.see(0, 10, true));
        for (int wrong : WRONG) {
            edges.noSuch("person " + wrong, () -> river.see(wrong, 0, true));
            edges.noSuch("thing " + wrong, () -> river.see(0, wrong, false));
        }
        edges.same("these are not refused ones", river.count(14), 2);
    }

    private void tells() {
        edges.of("Terms 4", "THINGS by each of which, were it MISSED by a told one, all that is SEEN of that "
                + "one would be so: as bits");
        RiverIfs river = Texts.river(TWO);
        edges.same("nothing is seen", river.tells(0) + " " + river.tells(1), "1023 1023");
        river.see(0, 3, true);
        edges.same("of that one alone", river.tells(0) + " " + river.tells(1), "10 1023");
        river.see(0, 1, false);
        edges.same("all that is seen", river.tells(0), 8);
        river.see(0, 9, true);
        edges.same("none is left", river.tells(0), 0);
        river.forget();
        river.see(0, 0, true);
        edges.same("what one has is there anyway", river.tells(0), 1023);
        river.see(0, 0, false);
        edges.same("and can't be away", river.tells(0), 0);
        river.see(1, 0, false);
        edges.same("of the other one it can", river.tells(1), 1022);
        edges.same("missed is as it was", river.person(0, 1) + " " + river.person(1, 1), "0 0");
        edges.of("Promise 40", "TELLS, as bits.");
        edges.noSuch("person 2", () -> river.tells(2));
        for (int person : WRONG) {
            edges.noSuch("person " + person, () -> river.tells(person));
        }
    }

    private void look() {
        edges.of("Terms 4", "LOOK NEXT at that one: the THING (of like ones the least) for which the lesser "
                + "of two numbers is most: by how many of these one would have it THERE, and by how many "
                + "one wouldn't: which; that lesser number; none without any");
        RiverIfs alike = Texts.river("person 0 0 0 0;");
        edges.same("of like ones the least", looked(alike, 0), "0 1");
        RiverIfs half = Texts.river("if 1 0 9;if 2 0 9;if 4 0 9;if 8 0 9;person 0 0 0 0;");
        edges.same("five and five", looked(half, 0), "9 5");
        half.see(0, 9, true);
        edges.same("one and four", looked(half, 0), "0 1");
        half.see(0, 0, false);
        half.see(0, 1, false);
        half.see(0, 2, false);
        edges.same("one and one", half.tells(0) + " " + looked(half, 0), "520 3 1");
        half.see(0, 3, false);
        edges.same("one alone: none and one, of each THING", half.tells(0) + " " + looked(half, 0),
                "512 0 0");
        half.see(0, 9, false);
        edges.same("none without any", half.tells(0) + " " + looked(half, 0), "0 -1 0");
        RiverIfs has = Texts.river("person 1 0 0 0;");
        edges.same("not at what is there anyway", looked(has, 0), "1 1");
        RiverIfs most = Texts.river("if 1 0 9;if 2 0 9;if 4 0 9;if 8 0 9;if 16 0 9;if 32 0 9;if 64 0 9;"
                + "if 128 0 9;if 256 0 8;if 1 0 8;if 2 0 8;if 4 0 8;person 0 0 0 0;");
        edges.same("nine and one is less than four and six", looked(most, 0), "8 4");
        edges.of("Promise 41", "LOOK NEXT: the THING (what 0; NONE), how many (1; 0: none). "
                + "NoSuchElementException: also another what");
        edges.noSuch("person 1", () -> has.look(1, 0));
        edges.noSuch("what 2", () -> has.look(0, 2));
        edges.noSuch("what 2, without any", () -> half.look(0, 2));
        for (int wrong : WRONG) {
            edges.noSuch("person " + wrong, () -> has.look(wrong, 0));
            edges.noSuch("what " + wrong, () -> has.look(0, wrong));
        }
    }

    private static String looked(RiverIfs river, int person) {
        return river.look(person, 0) + " " + river.look(person, 1);
    }

    private void forget() {
        edges.of("Promise 42", "All that is SEEN is forgotten.");
        RiverIfs river = Texts.river(TWO);
        river.forget();
        edges.same("of nothing", river.count(10), 0);
        for (int i = 0; i < 9; i++) {
            river.see(i % 2, 9, true);
        }
        river.forget();
        edges.same("of all eight", river.count(10) + " " + river.tells(0) + " " + river.tells(1),
                "0 1023 1023");
        edges.same("status stays", river.count(14), 1);
        edges.same("hasn't, where it had", river.see(0, 9, false) + " " + river.tells(0), "1 511");
    }

    private void status() {
        edges.of("Terms 4", "STATUS: how many calls were refused: 0 TEXTS with a FAULT, 1 ACTS, 2 what is "
                + "SEEN");
        RiverIfs river = Texts.river(TWO);
        edges.same("none", status(river), "0 0 0");
        Texts.shore(river, "x");
        edges.same("a text", status(river), "1 0 0");
        river.bridge(9);
        river.sundays(0);
        river.has(0, 0, true);
        river.miss(0, 0);
        river.deny(0, false);
        edges.same("five ACTS", status(river), "1 5 0");
        for (int i = 0; i < 10; i++) {
            river.see(0, 0, true);
        }
        edges.same("two of ten", status(river), "1 5 2");
        river.undo();
        river.restore();
        edges.illegal("a text that isn't there", () -> river.shore(1));
        edges.noSuch("no such person", () -> river.has(2, 0, true));
        edges.same("other calls count nothing", status(river), "1 5 2");
        Texts.shore(river, "");
        edges.same("another shore takes nothing back", status(river), "1 5 2");
    }

    private static String status(RiverIfs river) {
        return river.count(12) + " " + river.count(13) + " " + river.count(14);
    }

    private void image() {
        edges.of("Promise 45", "AN IMAGE is kept, in place of another one.");
        RiverIfs river = Texts.river(TWO);
        river.image();
        river.sundays(3);
        river.image();
        river.sundays(4);
        edges.same("the later one", river.restore() + " " + river.count(3), "true 3");
        edges.same("as often as one likes", river.restore() + " " + river.count(3), "true 3");
        river.sundays(1);
        edges.same("the same still", river.restore() + " " + river.count(3), "true 3");
        edges.of("Terms 4", "AN IMAGE keeps all that SUNDAYS and ACTS change, ACTS that are kept, what is "
                + "SEEN, STATUS");
        RiverIfs full = full();
        String before = all(full);
        full.image();
        change(full);
        edges.same("all is otherwise", all(full).equals(before), false);
        full.restore();
        edges.same("all is back", all(full), before);
        // 43 ACTS: the first three are lost, then SUNDAYS and MISSED by turns, DENIED the last.
        for (int left = 39; left >= 0; left--) {
            edges.same("forty ACTS", full.undo(), left);
            int acts = left + 3;
            edges.same("as it was ahead of it", full.count(3) + " " + full.person(0, 1),
                    (acts + 1) / 2 + " " + (1 + (acts / 2 - 1) % 9));
        }
        edges.same("none is left", full.undo(), -1);
        full.restore();
        edges.same("all is back", all(full), before);
        Texts.feed(full, "zz");
        full.restore();
        edges.same("the tape isn't kept", full.count(11), 20);
    }

    private static RiverIfs full() {
        RiverIfs river = Texts.river(TWO);
        for (int i = 0; i < 21; i++) {
            river.sundays(1);
            river.miss(0, 1 + i % 9);
        }
        for (int i = 0; i < 9; i++) {
            river.see(1, 3, true);
        }
        river.deny(0, true);
        river.bridge(9);
        Texts.shore(river, "x");
        return river;
    }

    private static void change(RiverIfs river) {
        river.sundays(20);
        river.has(0, 9, true);
        river.miss(1, 8);
        river.deny(0, false);
        river.bridge(8);
        river.see(0, 0, true);
        river.bridge(9);
        Texts.shore(river, "x");
        river.forget();
        for (int i = 0; i < 8; i++) {
            river.see(0, 9 - i, false);
        }
        for (int i = 0; i < 30; i++) {
            river.undo();
        }
        for (int i = 0; i < 37; i++) {
            river.has(1, 9, i % 2 == 0);
        }
    }

    private static String all(RiverIfs river) {
        StringBuilder all = new StringBuilder();
        for (int what = 0; what < 15; what++) {
            all.append(river.count(what)).append(' ');
        }
        for (int i = 0; i < 16; i++) {
            all.append(river.person(i / 8, i % 8)).append(' ');
        }
        return all.append(river.tells(0)).append(' ').append(river.tells(1)).toString();
    }

    private void restore() {
        edges.of("Promise 46", "It is as the IMAGE again: true. False: there is none.");
        RiverIfs river = new RiverIfs();
        edges.same("none", river.restore(), false);
        river.image();
        edges.same("one", river.restore(), true);
        Texts.shore(river, "x");
        edges.same("it stays behind a FAULT", river.restore() + " " + river.count(12), "true 0");
        Texts.shore(river, TWO);
        edges.same("it is gone with another shore", river.restore(), false);
        edges.same("nothing changes", river.count(0) + " " + status(river), "2 0 0 0");
        edges.of("Terms 4", "`NONE = -1`: There is none.");
        edges.same("NONE", RiverIfs.NONE, -1);
    }
}
