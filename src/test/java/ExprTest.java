/** What an EXPR gives, as person(.., 7) and the SUNDAYS show it (promises 3, 8, 15). */
public final class ExprTest {
    private static final Check CHECK = new Check();
    // here: 4 + 8 = 12; there: 12 + 16 = 28 by the missed thing; spared: 8
    private static final String ONE = "worth 2 4;worth 3 8;worth 4 9;worth 5 7;if 16 0 5;"
            + "person 12 4 2 31;";

    public static void main(String[] args) {
        arithmetic();
        logic();
        values();
        sundays();
        CHECK.end();
    }

    private static int wants(String expr) {
        return Texts.river(ONE + "crosses " + expr + ";").person(0, 7);
    }

    private static void holds(String expr) {
        CHECK.same(expr, wants(expr), 1);
    }

    private static void fails(String expr) {
        CHECK.same(expr, wants(expr), 0);
    }

    private static void arithmetic() {
        CHECK.promise("EXPR, arithmetic");
        String[] same = {"2+3*4=14", "(2+3)*4=20", "10-3-2=5", "10-(3-2)=9", "100/5/2=10",
            "100/(5/2)=50", "2*7/4=3", "7/4*2=2", "7/2=3", "(0-7)/2=0-3", "7/(0-2)=0-3",
            "(0-7)/(0-2)=3", "5/0=0", "0/0=0", "5/(1-1)+2=2", "2-3+4=3", "1/2*2=0",
            "9999*9999*9999<0", "2048*1024*1024<0", "2048*1024*1024/(0-1)=2048*1024*1024",
            "2048*1024*1024-1=2047*1024*1024+1024*1024-1"};
        for (String one : same) {
            holds(one);
        }
        holds("1");
        holds("9999");
        fails("0");
        fails("0-1");
        fails("2048*1024*1024");
    }

    private static void logic() {
        CHECK.promise("EXPR, logic");
        String[] same = {"(3<5)=1", "(5<3)=0", "(3<3)=0", "(3=3)=1", "(3=4)=0", "not 5=0",
            "(not 0)=1", "(not 7)=0", "(not (0-7))=0", "(not not 7)=1", "(5 and 3)=1",
            "(5 and 0)=0", "(0 and 5)=0", "((0-5) and 1)=1", "(5 or 0)=1", "(0 or 5)=1",
            "(0 or 0)=0", "((0-5) or 0)=1", "1 or 0 and 0", "not 0 and 1", "not (0 and 1)",
            "1+1<3", "3<1+3", "not 1<1", "not 2=1+2", "2=1+1 and 1<2", "0 or 2=2",
            "(7)=7", "((1 or 1)+(1 and 1))=2", "not not not not not not 1"};
        for (String one : same) {
            holds(one);
        }
        fails("not 1");
        fails("not 0 and 0");
        fails("(not 0) and 0 or 0");
        fails("not not not not not 1");
        fails("0 and 0 or 0 and 1");
    }

    private static void values() {
        CHECK.promise("EXPR, values");
        String[] same = {"longing=31", "here=12", "there=28", "spared=8", "not sunday", "not last",
            "not flowers"};
        for (String one : same) {
            holds(one);
        }
        RiverIfs river = Texts.river(ONE + "crosses there-here=16 and longing<32;");
        CHECK.same("first", river.person(0, 7), 1);
        river.has(0, 4, true);
        CHECK.same("here is 21", river.person(0, 7), 0);
        river.undo();
        river.deny(0, true);
        CHECK.same("there is 21", river.person(0, 7), 0);
    }

    private static void sundays() {
        CHECK.promise("EXPR on SUNDAYS");
        RiverIfs last = Texts.river(ONE + "crosses 1-last;");
        CHECK.same("every other", row(last), "1 0 1 0 1 ");
        last.sundays(1);
        CHECK.same("last", last.person(0, 7), 0);
        RiverIfs one = Texts.river(ONE + "crosses last=1 or sunday=1;");
        CHECK.same("last is 1", row(one), "0 1 1 1 1 ");
        CHECK.same("every other", row(last), "0 1 0 1 0 ");
        RiverIfs sunday = Texts.river(ONE + "crosses sunday=3;");
        CHECK.same("the fourth", row(sunday), "0 0 0 1 0 ");
        sunday.sundays(3);
        CHECK.same("now", sunday.person(0, 7), 1);
        RiverIfs flowers = Texts.river(ONE + "crosses flowers<2;");
        CHECK.same("two flowers", row(flowers), "1 1 0 0 0 ");
        RiverIfs longing = Texts.river(ONE + "crosses longing/16;");
        CHECK.same("31, 15, 18, 2, 5", row(longing), "1 0 1 0 0 ");
    }

    private static String row(RiverIfs river) {
        StringBuilder row = new StringBuilder();
        for (int k = 1; k <= 5; k++) {
            row.append(river.crossing(k)).append(' ');
        }
        return row.toString();
    }
}
