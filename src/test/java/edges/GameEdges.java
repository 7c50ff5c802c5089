/** Edges of A GAME and of YEARS ('==== 4.', promises 43 and 44). */
final class GameEdges {
    private static final int[] WRONG = {-1, 3, Integer.MIN_VALUE, Integer.MAX_VALUE};

    private final Edges edges;

    GameEdges(Edges edges) {
        this.edges = edges;
    }

    void all() {
        gains();
        rests();
        wrongGames();
        nobodysYears();
        howManyYears();
        draws();
        whatIsDrawn();
        wrongYears();
    }

    private static String played(String text) {
        RiverIfs river = Texts.river(text);
        return river.game(0, 1, 0) + " " + river.game(0, 1, 1);
    }

    /** Two of whom the one gains a when alone, the other one b; they share none of the THINGS. */
    private static String two(int a, int b) {
        return "worth 0 " + (a < 0 ? "- " : "") + Math.abs(a) + ";worth 1 " + (b < 0 ? "- " : "")
                + Math.abs(b) + ";person 0 0 0 0;person 0 1 0 0;";
    }

    private void gains() {
        edges.of("Terms 4", "each goes, or stays (1, 0): who goes alone gains WORTH of THERE less that of HAS");
        edges.same("2 is more than staying", played(two(2, -9)), "1 10");
        edges.same("1 is as much as staying", played(two(1, -9)), "2 0");
        edges.same("0 is less", played(two(0, -9)), "1 0");
        edges.same("of the other one", played(two(-9, 2)), "1 1");
        edges.same("what one has is nothing gained", played("worth 0 9;person 1 0 0 0;person 0 1 0 0;"),
                "1 0");
        edges.of("Terms 4", "if both go, each gains half of that (by / as in an EXPR), and 2 for each THING "
                + "that both have THERE; who stays gains 1");
        edges.same("half of 3 is 1: as staying", played(two(3, 3)), "3 1");
        edges.same("half of 4 is more", played(two(4, 4)), "1 11");
        edges.same("half of 2 is 1: as staying", played(two(2, 2)), "3 1");
        edges.same("half of 1 is 0", played(two(1, 1)), "3 0");
        // Both have thing 9: half of -3 is -1, and 2 is as staying; half of -4 and 2 is less.
        String shared = ";worth 9 0;person 512 0 0 0;person 512 1 0 0;";
        edges.same("half of -3 is -1", played("worth 0 - 3;worth 1 - 3" + shared), "2 0");
        edges.same("half of -4 is -2", played("worth 0 - 4;worth 1 - 4" + shared), "1 0");
        String twice = ";person 768 0 0 0;person 768 1 0 0;";
        edges.same("2 for each of two", played("worth 0 - 6;worth 1 - 6" + twice), "2 0");
        edges.same("2 for each of two", played("worth 0 - 8;worth 1 - 8" + twice), "1 0");
    }

    private void rests() {
        edges.of("Terms 4", "A couple RESTS, if neither gains more by the other choice: how many; the first "
                + "(10 by the first one's, and the other one's)");
        String shared = ";person 512 0 0 0;person 512 1 0 0;";
        edges.same("as much, whatever one does", played("worth 0 1;worth 1 1;person 0 0 0 0;"
                + "person 0 1 0 0;"), "3 0");
        edges.same("both or none", played("worth 0 0;worth 1 0" + shared), "2 0");
        edges.same("one or the other", played(two(3, 3)), "3 1");
        edges.same("both", played("worth 0 0;worth 1 9" + shared), "1 11");
        edges.of("Promise 43", "how many couples rest (what 0), the first (1; NONE: none)");
        // Who gains 2 or more alone goes always; if neither does, both stay: some couple rests always.
        for (int a = -9; a <= 9; a++) {
            for (int b = -9; b <= 9; b++) {
                edges.same("none is shared, " + a + " " + b, played(two(a, b)), due(a, b, 0));
                edges.same("one is shared, " + a + " " + b, played(two(a, b).replace("person 0",
                        "person 512")), due(a, b, 2));
            }
        }
    }

    /** The couples that rest, from the four of them, by what each gains there. */
    private static String due(int a, int b, int both) {
        int[] first = {1, 1, a, a / 2 + both};
        int[] other = {1, b, 1, b / 2 + both};
        int many = 0;
        String least = "-1";
        for (int couple = 3; couple >= 0; couple--) {
            if (first[couple ^ 2] <= first[couple] && other[couple ^ 1] <= other[couple]) {
                many++;
                least = String.valueOf(couple / 2 * 10 + couple % 2);
            }
        }
        return many + " " + least;
    }

    private void wrongGames() {
        edges.of("Promise 43", "NoSuchElementException: also another what. IllegalArgumentException (behind "
                + "that): both are one");
        RiverIfs river = Texts.river("person 0 0 0 0;person 0 0 0 0;person 0 0 0 0;");
        edges.illegal("both are one", () -> river.game(0, 0, 0));
        edges.illegal("both are one", () -> river.game(2, 2, 1));
        for (int wrong : WRONG) {
            edges.noSuch("person " + wrong, () -> river.game(wrong, 0, 0));
            edges.noSuch("other " + wrong, () -> river.game(0, wrong, 1));
            edges.noSuch("both " + wrong, () -> river.game(wrong, wrong, 0));
            edges.noSuch("what " + wrong, () -> river.game(0, 1, wrong));
            edges.noSuch("what " + wrong + " ahead of one", () -> river.game(1, 1, wrong));
        }
        edges.noSuch("what 2", () -> river.game(0, 1, 2));
    }

    private void nobodysYears() {
        edges.of("Terms 4", "(Without PEOPLE just the DRAWS of 6 are made.)");
        for (int what = 0; what < 3; what++) {
            for (int seed : new int[] {0, 1, -1, Integer.MIN_VALUE, Integer.MAX_VALUE}) {
                edges.same("nothing", new RiverIfs().years(seed, 60, what), 0);
            }
        }
    }

    private void howManyYears() {
        edges.of("Terms 4", "n SUNDAYS (0 to 60) from now on");
        RiverIfs river = Texts.river("person 0 9 0 7;crosses sunday=59;");
        edges.same("none", river.years(4, 0, 0) + " " + river.years(4, 0, 1) + " " + river.years(4, 0, 2),
                "0 0 7");
        edges.same("59, 60", river.years(4, 59, 0) + " " + river.years(4, 60, 0), "0 1");
        river.sundays(1);
        edges.same("from now on", river.years(4, 58, 0) + " " + river.years(4, 59, 0), "0 1");
        edges.same("nothing changes", river.count(3) + " " + river.count(9), "1 1");
        RiverIfs eight = Texts.river("person 0 0 0 99;".repeat(8) + "bridge 8;crosses 1;");
        edges.same("somebody crossed, all together", eight.years(4, 60, 0), 480);
    }

    /** A seed whose first draw of 6 is told by bits 16 to 30, the sign left out. */
    private void draws() {
        edges.of("Terms 4", "A seed becomes itself times 1103515245 and 12345 (an int that wraps); a DRAW of "
                + "n is its bits 16 to 30 MOD n then");
        // What one has shows which kind was drawn, which THING, of which of PEOPLE.
        for (int person = 1; person <= 8; person++) {
            String text = "person 341 0 0 0;".repeat(person) + "worth 0 1;worth 2 2;worth 4 3;worth 6 4;"
                    + "worth 8 5;worth 1 6;worth 3 7;worth 5 8;worth 7 9;worth 9 9;crosses 0;";
            for (int i = 0; i < 300; i++) {
                int seed = i < 20 ? i - 10 : i * 14367431 * (i % 2 == 0 ? 1 : -1);
                RiverIfs river = Texts.river(text);
                edges.same(person + " people, seed " + seed, river.years(seed, 1, 2),
                        longing(person, seed));
            }
        }
    }

    /** LONGING of all behind one SUNDAY on which nobody crosses, by the DRAWS alone. */
    private static int longing(int people, int seed) {
        long s = next(seed);
        int kind = draw(s, 6);
        int has = 341;
        int missed = 0;
        if (kind < 3) {
            s = next(next(s));
            int thing = draw(s, 10);
            has = kind == 0 ? has | 1 << thing : kind == 1 ? has & ~(1 << thing) : has;
            missed = kind == 2 ? thing : 0;
        }
        return people + Integer.bitCount((has | 1 << missed) & ~has);
    }

    private static long next(long seed) {
        return (seed * 1103515245L + 12345L) % 4294967296L;
    }

    private static int draw(long seed, int n) {
        return (int) ((Math.floorMod(seed, 4294967296L) >> 16) % 32768 % n);
    }

    private void whatIsDrawn() {
        edges.of("Terms 4", "ahead of each a DRAW of 6: 0 a DRAW of PEOPLE GETS a DRAW of 10 (a THING; if it "
                + "is there: nothing), 1 a DRAW of PEOPLE LOSES a DRAW of 10, 2 a DRAW of PEOPLE MISSED a "
                + "DRAW of 10");
        String crosses = ";crosses here=";
        for (int kind = 0; kind < 6; kind++) {
            int seed = seedOf(kind, 1, 5);
            edges.same("here, " + kind, kindsOf(seed, "person 0 9 0 0;person 0 9 0 0" + crosses + "7;"),
                    kind == 0 ? "1 1" : "0 0");
            edges.same("it is there, " + kind, kindsOf(seed, "person 0 9 0 0;person 32 9 0 0" + crosses
                    + "7;"), kind == 1 ? "0 0" : kind == 2 ? "1 0" : "1 1");
            edges.same("there, " + kind, kindsOf(seed, "person 0 9 0 0;person 0 9 0 0;crosses there=7;"),
                    kind == 0 || kind == 2 ? "1 1" : "0 0");
            edges.same("the other one, " + kind, kindsOf(seed, "person 0 9 0 0;person 0 9 0 9;"
                    + "crosses longing=0 and there=7;"), "0 0");
        }
        edges.of("Terms 4", "how often somebody crossed, all together; FLOWERS of all at the end; LONGING of all");
        RiverIfs river = Texts.river("person 0 9 0 3;person 0 9 0 4;person 512 9 0 5;crosses longing<5;");
        int seed = seedOf(5, 0, 0);
        edges.same("two; two flowers; 3, 4, 6", river.years(seed, 1, 0) + " " + river.years(seed, 1, 1)
                + " " + river.years(seed, 1, 2), "2 2 13");
    }

    /** How often somebody crossed on the first SUNDAY, with thing 5 of worth 7; flowers. */
    private static String kindsOf(int seed, String text) {
        RiverIfs river = Texts.river("worth 5 7;" + text);
        return river.years(seed, 1, 0) + " " + river.years(seed, 1, 1);
    }

    /** The least seed by which that kind is drawn, that one of two and that THING. */
    private static int seedOf(int kind, int person, int thing) {
        for (int seed = 0; seed < 1000000; seed++) {
            long first = next(seed);
            long second = next(first);
            if (draw(first, 6) == kind && draw(second, 2) == person
                    && draw(next(second), 10) == thing) {
                return seed;
            }
        }
        throw new IllegalStateException("no seed");
    }

    private void wrongYears() {
        edges.of("Promise 44", "how often (what 0), FLOWERS (1), LONGING (2). NoSuchElementException: another "
                + "what. IllegalArgumentException (behind that): n");
        RiverIfs river = Texts.river("person 0 0 0 0;");
        for (int n : new int[] {-1, 61, Integer.MIN_VALUE, Integer.MAX_VALUE}) {
            for (int what = 0; what < 3; what++) {
                int asked = what;
                edges.illegal("n " + n, () -> river.years(0, n, asked));
            }
            edges.illegal("n " + n + ", nobody", () -> new RiverIfs().years(0, n, 0));
        }
        for (int what : WRONG) {
            edges.noSuch("what " + what, () -> river.years(0, 1, what));
            edges.noSuch("what " + what + " ahead of 61", () -> river.years(0, 61, what));
        }
    }
}
