/** Edges of what an EXPR gives ('Terms'), shown by who wants to cross. */
final class ExprEdges {
    // 2048 * 1024 * 1024 wraps to the least int.
    private static final String LEAST = "2048*1024*1024";
    private static final String GREATEST = "(2048*1024*1024-1)";

    private final Edges edges;

    ExprEdges(Edges edges) {
        this.edges = edges;
    }

    void all() {
        order();
        wraps();
        division();
        tests();
        values();
        countedValues();
    }

    private static int wants(String expr) {
        return Texts.river("person 0 0 0 0;crosses " + expr + ";").person(0, 7);
    }

    private void holds(String... exprs) {
        for (String expr : exprs) {
            edges.same(expr, wants(expr), 1);
        }
    }

    private void fails(String... exprs) {
        for (String expr : exprs) {
            edges.same(expr, wants(expr), 0);
        }
    }

    private void order() {
        edges.of("Terms", "From the left");
        holds("9-4-3=2", "9-4+3=8", "64/4/2=8", "7/2*2=6", "2+3*4=14", "9-6/3=7");
        holds("1 or 0 and 0", "not 0 and 1", "1-1<1", "0<2-1");
    }

    private void wraps() {
        edges.of("Terms", "ints that wrap");
        holds(LEAST + "<0", "0<" + GREATEST, GREATEST + "+1=" + LEAST, LEAST + "-1=" + GREATEST,
                LEAST + "*2=0", "0-" + LEAST + "=" + LEAST, "2048*1024*1023*2<0",
                "9999*9999*9999<0-1000*1000*1000");
        fails(LEAST, GREATEST + "+1");
        holds(GREATEST, LEAST + "-1");
    }

    private void division() {
        edges.of("Terms", "/ cut down to 0");
        holds("1/2=0", "3/2=1", "(0-1)/2=0", "(0-3)/2=0-1", "3/(0-2)=0-1", "(0-3)/(0-2)=1");
        holds(LEAST + "/(0-1)=" + LEAST, "(" + LEAST + ")/(" + LEAST + ")=1");
        edges.of("Terms", "by 0 gives 0");
        holds("1/0=0", "0/0=0", "(0-1)/0=0", "5/(2-2)=0", LEAST + "/0=0", "5/1=5");
        fails("9/0");
    }

    private void tests() {
        edges.of("Terms", "tests, not, and, or are 1 or 0 (what isn't 0 holds)");
        holds("(1<2)=1", "(2<2)=0", "(3<2)=0", "(2=2)=1", "(2=3)=0", "(not 0)=1", "(not 1)=0",
                "(not (0-1))=0", "(not 9)=0", "(7 and 9)=1", "(7 and 0)=0", "(0 and 7)=0",
                "((0-1) and (0-1))=1", "(7 or 0)=1", "(0 or 9)=1", "(7 or 9)=1", "(0 or 0)=0",
                "(0 or (0-1))=1", "(" + LEAST + " and 1)=1", "(not not 9)=1");
        holds("(9)=9", "((9))+1=10");
    }

    private void values() {
        edges.of("Terms", "'here' (the WORTH of what one has, all together)");
        StringBuilder nines = new StringBuilder();
        StringBuilder below = new StringBuilder();
        for (int thing = 0; thing < 10; thing++) {
            nines.append("worth ").append(thing).append(" 9;");
            below.append("worth ").append(thing).append(" - 9;");
        }
        all(nines + "person 1023 0 9 0;", "here=90 and there=90 and spared=81");
        all(below + "person 1023 0 9 0;", "here=0-90 and there=0-90 and spared=0-81");
        all(nines + "person 0 0 0 0;", "here=0 and there=9 and spared=0");
        edges.of("Terms", "'last' (1, if one crossed on the SUNDAY ahead, else 0)");
        holds("last=0");
        RiverIfs last = Texts.river("person 9 0 0 5;person 0 0 0 4;bridge 1;crosses sunday=0 or last;");
        last.sundays(1);
        edges.same("who crossed", last.person(0, 7), 1);
        edges.same("who waited", last.person(1, 7), 0);
        last.undo();
        edges.same("undone", last.person(0, 7) + " " + last.person(1, 7), "1 1");
        RiverIfs once = Texts.river("person 0 0 0 0;crosses sunday=0 or last=1;");
        edges.same("just 1", once.crossing(2) + " " + once.crossing(60), "1 1");
        RiverIfs ahead = Texts.river("person 0 0 0 0;crosses sunday=0 or sunday=2 and last;");
        edges.same("not two SUNDAYS ahead", ahead.crossing(1) + " " + ahead.crossing(2) + " "
                + ahead.crossing(3), "1 0 0");
    }

    private void countedValues() {
        edges.of("Terms", "'sunday', 'flowers'");
        holds("sunday=0", "flowers=0");
        RiverIfs river = Texts.river("person 0 0 0 0;crosses sunday=flowers and sunday<3;");
        edges.same("one more each SUNDAY", river.crossing(1) + " " + river.crossing(2) + " "
                + river.crossing(3) + " " + river.crossing(4), "1 1 1 0");
        RiverIfs full = Texts.river("person 0 0 0 0;crosses flowers<99;");
        for (int i = 0; i < 5; i++) {
            full.sundays(i == 4 ? 18 : 20);
        }
        edges.same("98", full.crossing(1) + " " + full.crossing(2), "1 0");
        edges.same("longing up to 99", Texts.river("person 0 0 0 99;crosses longing=99;").person(0, 7), 1);
    }

    private void all(String text, String expr) {
        edges.same(expr, Texts.river(text + "crosses " + expr + ";").person(0, 7), 1);
    }
}
