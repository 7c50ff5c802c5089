/** Promises 43 and 44: a game of two, years by a seed. */
public final class GameTest {
    private static final Check CHECK = new Check();

    public static void main(String[] args) {
        game();
        yearsOfNobody();
        yearsByActs();
        yearsWrong();
        CHECK.end();
    }

    private static String rests(String text, int person, int other) {
        RiverIfs river = Texts.river(text);
        return river.game(person, other, 0) + " " + river.game(person, other, 1);
    }

    private static void game() {
        CHECK.promise("43 game");
        // Alone 4, -3, 4; both of the first and the last: 2, and 2 for the thing that both have.
        String three = "worth 0 4;worth 1 - 3;person 0 0 0 0;person 0 1 0 0;person 0 0 0 0;";
        CHECK.same("the first one goes", rests(three, 0, 1), "1 10");
        CHECK.same("the other one goes", rests(three, 1, 0), "1 1");
        CHECK.same("both go", rests(three, 0, 2), "1 11");
        // Alone -1, both 0 and 2: they go together, or not at all.
        CHECK.same("together", rests("worth 0 - 1;person 0 0 0 0;person 0 0 0 0;", 0, 1), "2 0");
        // Alone 1, both 0: as staying, but together.
        CHECK.same("but together", rests("worth 0 1;worth 1 1;person 0 0 0 0;person 0 1 0 0;", 0, 1),
                "3 0");
        // Alone 4, both 2.
        CHECK.same("half", rests("worth 0 4;worth 1 4;person 0 0 0 0;person 0 1 0 0;", 0, 1), "1 11");
        // Alone 15, and -3; both 9, and -1 + 2: as staying.
        CHECK.same("half is cut down to 0", rests(Texts.SMALL, 0, 2), "2 10");
        CHECK.same("half is cut down to 0", rests(Texts.SMALL, 2, 0), "2 1");
        // Alone 2 by what is missed alone; both 1, and 2 for a thing that both had here.
        CHECK.same("less that of HAS", rests("worth 0 9;worth 1 2;worth 2 2;person 1 1 0 0;"
                + "person 1 2 0 0;", 0, 1), "1 11");
        CHECK.same("nothing is gained", rests("person 0 0 0 0;person 0 1 0 0;", 0, 1), "1 0");
        RiverIfs river = Texts.river(three);
        CHECK.noSuch("3", () -> river.game(3, 0, 0));
        CHECK.noSuch("-1", () -> river.game(-1, 0, 0));
        CHECK.noSuch("other 3", () -> river.game(0, 3, 0));
        CHECK.noSuch("what 2", () -> river.game(0, 1, 2));
        CHECK.noSuch("what -1 ahead of one", () -> river.game(1, 1, -1));
        CHECK.noSuch("no such one ahead of one", () -> river.game(3, 3, 0));
        CHECK.illegal("one", () -> river.game(1, 1, 0));
        CHECK.illegal("one, first", () -> river.game(0, 0, 1));
    }

    private static void yearsOfNobody() {
        CHECK.promise("44 years");
        for (int what = 0; what < 3; what++) {
            CHECK.same("nobody", new RiverIfs().years(1, 60, what), 0);
        }
        RiverIfs river = Texts.river(Texts.SMALL);
        CHECK.same("none", river.years(9, 0, 0) + " " + river.years(9, 0, 1) + " "
                + river.years(9, 0, 2), "0 0 28");
        // By seed 0 the first draw is 0 of 6: 12345 has no bits from 16 on.
        RiverIfs one = Texts.river("worth 0 9;person 0 0 0 50;crosses here=0;");
        int second = 12345 * 1103515245 + 12345;
        int third = second * 1103515245 + 12345;
        int thing = (third >>> 16 & 32767) % 10;
        CHECK.same("a thing of no worth came", thing != 0, true);
        CHECK.same("it crossed", one.years(0, 1, 0), 1);
        CHECK.same("one less by 9", one.years(0, 1, 2), 41);
    }

    /** The same years, by the calls that make the ACTS. */
    private static void yearsByActs() {
        String text = "worth 0 3;worth 1 5;worth 2 - 4;worth 3 9;worth 4 1;person 1 1 0 15;"
                + "person 6 0 2 4;person 0 4 1 9;person 0 9 0 30;person 1023 0 0 30;"
                + "if 3 0 3;if 8 4 4;unless 1 0 2;if 16 0 9;bridge 2;";
        yearsByActs(text);
        yearsByActs("worth 0 3;worth 4 9;worth 7 - 2;person 16 1 0 15;if 3 0 3;if 16 0 4;");
    }

    private static void yearsByActs(String text) {
        for (int seed : new int[] {0, 1, 2, 3, 5, 77, -1, -12345, 1 << 30, Integer.MIN_VALUE}) {
            for (int n : new int[] {1, 2, 7, 60}) {
                RiverIfs river = Texts.river(text);
                river.sundays(3);
                RiverIfs acted = Texts.river(text);
                acted.sundays(3);
                String due = acted(acted, seed, n);
                CHECK.same("seed " + seed + ", " + n, river.years(seed, n, 0) + " "
                        + river.years(seed, n, 1) + " " + river.years(seed, n, 2), due);
                CHECK.same("nothing changed", river.count(3) + " " + river.count(9), "3 1");
            }
        }
    }

    private static String acted(RiverIfs river, int seed, int n) {
        long[] s = {seed};
        int crossings = 0;
        for (int i = 0; i < n; i++) {
            int kind = draw(s, 6);
            if (kind < 3) {
                int person = draw(s, river.count(0));
                int thing = draw(s, 10);
                if (kind == 2) {
                    river.miss(person, thing);
                } else {
                    river.has(person, thing, kind == 0);
                }
            }
            river.sundays(1);
            crossings += Integer.bitCount(river.count(4));
        }
        int flowers = 0;
        int longing = 0;
        for (int person = 0; person < river.count(0); person++) {
            flowers += river.person(person, 4);
            longing += river.person(person, 3);
        }
        return crossings + " " + flowers + " " + longing;
    }

    private static int draw(long[] seed, int n) {
        seed[0] = (int) (seed[0] * 1103515245L + 12345L);
        return (int) (((seed[0] & 0xffffffffL) >> 16 & 32767) % n);
    }

    private static void yearsWrong() {
        CHECK.promise("44 years, wrong");
        RiverIfs river = Texts.river(Texts.SMALL);
        CHECK.noSuch("what 3 ahead of n", () -> river.years(1, 61, 3));
        CHECK.noSuch("what -1", () -> river.years(1, 1, -1));
        CHECK.illegal("61", () -> river.years(1, 61, 0));
        CHECK.illegal("-1", () -> river.years(1, -1, 2));
        CHECK.illegal("nobody, 61", () -> new RiverIfs().years(1, 61, 0));
    }
}
