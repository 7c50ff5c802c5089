/** Promises 2 to 4: the tape, the shore and its FAULTS. */
public final class TextTest {
    private static final Check CHECK = new Check();

    public static void main(String[] args) {
        feed();
        shoreOfTape();
        shoreAnew();
        lines();
        tooMany();
        expressions();
        nesting();
        readAsTold();
        nothingIsLeft();
        fedAsNumbers();
        CHECK.end();
    }

    private static void feed() {
        CHECK.promise("2 feed");
        RiverIfs river = new RiverIfs();
        for (int i = 1; i <= 35; i++) {
            CHECK.same("feed " + i, river.feed(0x20202020, 0x20202020, 0x20202020, 0x20202020,
                    0x20202020), 20 * i);
        }
        CHECK.same("feed beyond 700", river.feed(0, 0, 0, 0, 0), -1);
        CHECK.same("bytes", river.count(11), 700);
        CHECK.same("700 blanks", river.shore(700), 0);
        CHECK.same("feed again", river.feed(0, 0, 0, 0, 0), 20);
        // 'worth 7 3;' with every number's highest byte first, and bytes above 127 behind it
        RiverIfs order = new RiverIfs();
        order.feed(0x776f7274, 0x68203720, 0x333b8081, 0xffffffff, 0x80000000);
        CHECK.same("shore", order.shore(10), 0);
        CHECK.same("worth", order.worth(7), 3);
        order.feed(0x20202020, 0x8020ff20, 0, 0, 0);
        CHECK.same("a byte above 127 is no token", order.shore(20) + "@" + order.fault(), "1@4");
    }

    private static void shoreOfTape() {
        CHECK.promise("3 shore");
        RiverIfs river = new RiverIfs();
        CHECK.same("fault at first", river.fault(), -1);
        CHECK.illegal("below 0", () -> river.shore(-1));
        CHECK.illegal("least int", () -> river.shore(Integer.MIN_VALUE));
        CHECK.illegal("more than the tape has", () -> river.shore(1));
        CHECK.same("nothing of nothing", river.shore(0), 0);
        Texts.feed(river, "bridge 3;bridge 4;");
        CHECK.illegal("21 of 20", () -> river.shore(21));
        CHECK.same("the tape stays", river.count(11), 20);
        CHECK.same("no status", river.count(12), 0);
        CHECK.same("the first nine bytes", river.shore(9), 0);
        CHECK.same("bridge", river.count(2), 3);
        CHECK.same("the tape is empty", river.count(11), 0);
        Texts.feed(river, "bridge 3;bridge 4;");
        CHECK.same("a fault", river.shore(18), 5);
        CHECK.same("the tape is empty behind a fault", river.count(11), 0);
        CHECK.promise("4 fault");
        CHECK.same("place", river.fault(), 9);
        CHECK.illegal("empty", () -> river.shore(1));
        CHECK.same("the refused call changes no place", river.fault(), 9);
        CHECK.same("good", Texts.shore(river, " "), 0);
        CHECK.same("no place", river.fault(), -1);
    }

    private static void shoreAnew() {
        CHECK.promise("3 shore, all anew");
        RiverIfs river = Texts.river(Texts.SMALL);
        river.sundays(2);
        river.deny(1, true);
        river.has(0, 9, true);
        river.see(0, 1, true);
        river.image();
        river.bridge(9);
        CHECK.same("fault", Texts.shore(river, "crosses 1"), 1);
        CHECK.same("texts refused", river.count(12), 1);
        CHECK.same("people stay", river.count(0), 3);
        CHECK.same("sunday stays", river.count(3), 2);
        CHECK.same("denied stays", river.count(5), 2);
        CHECK.same("acts stay", river.count(9), 3);
        CHECK.same("seen stays", river.count(10), 1);
        CHECK.same("worth stays", river.worth(3), 9);
        CHECK.same("no rule came", river.person(0, 7), 0);
        CHECK.same("the image stays", river.restore(), true);
        river.bridge(9);
        CHECK.same("second fault", Texts.shore(river, "worth 0 1;worth 1 1;worth 2"), 1);
        CHECK.same("worth still stays", river.worth(0), 3);
        CHECK.same("no fault", Texts.shore(river, "person 1 2 3 4;"), 0);
        int[] due = {1, 0, 4, 0, 0, 0, 0, 0, -1, 0, 0, 0, 1, 1, 0};
        for (int what = 0; what < due.length; what++) {
            CHECK.same("count " + what, river.count(what), due[what]);
        }
        CHECK.same("worth anew", river.worth(3), 0);
        CHECK.same("flowers anew", river.person(0, 4), 0);
        CHECK.same("has anew", river.person(0, 0), 1);
        CHECK.same("no act is left", river.undo(), -1);
        CHECK.same("no image is left", river.restore(), false);
    }

    private static void fedAsNumbers() {
        // "if 1 0 3;person 1 2 0 12;" and blanks behind it, written out as numbers
        CHECK.promise("2 feed, 3 shore");
        RiverIfs river = new RiverIfs();
        river.feed(0x69662031, 0x20302033, 0x3b706572, 0x736f6e20, 0x31203220);
        river.feed(0x30203132, 0x3b202020, 0x20202020, 0x20202020, 0x20202020);
        CHECK.same("shore", river.shore(40), 0);
        CHECK.same("there", river.person(0, 5), 13);
        CHECK.same("crosses", river.crossing(1), 1);
    }

    private static void fault(String text, String due) {
        CHECK.same("'" + text + "'", Texts.faultOf(text), due);
    }

    private static void lines() {
        CHECK.promise("3 shore, lines");
        String[][] all = {
            {"", "0@-1"}, {" \n ", "0@-1"}, {"x", "1@0"}, {";", "1@0"}, {"7", "1@0"},
            {"12345", "1@0"}, {"\t", "1@0"}, {"\u0000", "1@0"}, {"\u00ff", "1@0"}, {" \r", "1@1"},
            {"worth", "1@5"}, {"worth 1 ", "1@8"}, {"worth 1 1", "1@9"}, {"worth 1 1;", "0@-1"},
            {"worth 1 - 1;", "0@-1"}, {"worth1-1;", "0@-1"}, {"worth 1--1;", "1@8"},
            {"worth -1 1;", "1@6"}, {"worth 1 -;", "1@9"}, {"worth\n1\n1\n;\n", "0@-1"},
            {"worth 1\t1;", "1@7"}, {"Worth 1 1;", "1@0"}, {"worths 1 1;", "1@0"},
            {"wort 1 1;", "1@0"}, {"north 1 1;", "1@0"}, {"worthz 1 1;", "1@0"}, {"worth a 1;", "1@6"}, {"worthA", "1@5"},
            {"worth 10 1;", "2@6"}, {"worth 1 10;", "2@8"}, {"worth 1 - 10;", "2@10"},
            {"worth 9 9;worth 8 -9;worth 0 - 0;", "0@-1"}, {"worth 12345 1;", "2@6"},
            {"worth 00001 1;", "2@6"}, {"worth 0001 0009;", "0@-1"}, {"worth 1 99999999999;", "2@8"},
            {"worth 1 1 12345;", "1@10"}, {"worth 1 1 1;", "1@10"}, {"worth 1 1;;", "1@10"},
            {"worth 1 1;worth 1 2;", "4@16"}, {"worth 1 0;worth 1 0;", "4@16"},
            {"worth 1 1;worth 11 2;", "2@16"}, {"worth 1 1;worth 2 1;worth 1 99", "4@26"},
            {"person 1023 9 9 99;", "0@-1"}, {"person 1024 0 0 0;", "2@7"},
            {"person 0 10 0 0;", "2@9"}, {"person 0 0 10 0;", "2@11"}, {"person 0 0 0 100;", "2@13"},
            {"person 0 0 0;", "1@12"}, {"person - 1 0 0 0;", "1@7"}, {"person 0 0 0 0 0;", "1@15"},
            {"person 0 x 0 0;", "1@9"}, {"person 0 0 + 0;", "1@11"}, {"person 0 0 0 (;", "1@13"},
            {"if 1023 1023 9;", "0@-1"}, {"if 1024 0 0;", "2@3"}, {"if 0 1024 0;", "2@5"},
            {"if 0 0 10;", "2@7"}, {"if 0 0;", "1@6"}, {"if 0;", "1@4"}, {"if;", "1@2"},
            {"unless 1023 1023 9;", "0@-1"}, {"unless 1024 0 0;", "2@7"},
            {"unless 0 0 10;", "2@11"}, {"unless 0 0 0", "1@12"},
            {"bridge 1;", "0@-1"}, {"bridge 8;", "0@-1"}, {"bridge 0;", "2@7"},
            {"bridge 9;", "2@7"}, {"bridge - 1;", "1@7"}, {"bridge;", "1@6"},
            {"bridge 1;bridge 1;", "5@9"}, {"bridge 1;bridge", "5@9"}, {"bridge 1;bridges", "1@9"},
            {"crosses 1;crosses 1;", "5@10"}, {"crosses 1;bridge 1;crosses", "5@19"},
            {"worth 10 1;x", "2@6"}, {"worth 1 1;x 10000", "1@10"},
        };
        for (String[] one : all) {
            fault(one[0], one[1]);
        }
    }

    private static void tooMany() {
        CHECK.promise("3 shore, too many");
        String people = "person 0 0 0 0;".repeat(8);
        fault(people, "0@-1");
        fault(people + "person 0 0 0 0;", "2@120");
        fault(people + " person", "2@121");
        fault(people + "persons", "1@120");
        String ifs = "if 0 0 0;unless 0 0 0;".repeat(6);
        fault(ifs, "0@-1");
        fault(ifs + "if 0 0 0;", "2@132");
        fault(ifs + "unless", "2@132");
        fault(ifs + people, "0@-1");
    }

    private static void expressions() {
        CHECK.promise("3 shore, an EXPR");
        String[][] all = {
            {"crosses 1;", "0@-1"}, {"crosses 9999;", "0@-1"}, {"crosses 10000;", "2@8"},
            {"crosses 00000;", "2@8"}, {"crosses ;", "1@8"}, {"crosses", "1@7"},
            {"crosses 1", "1@9"}, {"crosses foo;", "3@8"}, {"crosses bridge;", "3@8"},
            {"crosses or;", "3@8"}, {"crosses 1 foo;", "1@10"}, {"crosses 1 longing;", "1@10"},
            {"crosses 1 2;", "1@10"}, {"crosses 1 12345;", "1@10"}, {"crosses 1 not;", "1@10"},
            {"crosses 1 + not 1;", "3@12"}, {"crosses 1 < not 1;", "3@12"},
            {"crosses 1 and not 1;", "0@-1"}, {"crosses 1 or not 1;", "0@-1"},
            {"crosses -1;", "1@8"}, {"crosses 1 + - 1;", "1@12"}, {"crosses 1<2<3;", "1@11"},
            {"crosses 1=2=3;", "1@11"}, {"crosses 1<2=3;", "1@11"}, {"crosses (1<2)=3;", "0@-1"},
            {"crosses 1<2 and 2<3;", "0@-1"}, {"crosses 1 or or 2;", "3@13"},
            {"crosses (1;", "1@10"}, {"crosses 1);", "1@9"}, {"crosses ();", "1@9"},
            {"crosses (1", "1@10"}, {"crosses not;", "1@11"}, {"crosses not foo;", "3@12"},
            {"crosses 1=;", "1@10"}, {"crosses 1*;", "1@10"}, {"crosses 1 and", "1@13"},
            {"crosses longing+here-there*spared/sunday<flowers or last;", "0@-1"},
            {"crosses longings;", "3@8"}, {"crosses z;", "3@8"}, {"crosses a;", "3@8"},
            {"crosses past;", "3@8"}, {"crosses lasz;", "3@8"}, {"crosses {1};", "1@8"},
            {"crosses `1;", "1@8"}, {"crosses long;", "3@8"}, {"crosses 1!2;", "1@9"},
            {"crosses 1>2;", "1@9"}, {"crosses(1);", "0@-1"}, {"crosses 1or 0and 2;", "0@-1"},
            {"crosses 1+12345;", "2@10"}, {"crosses not 12345;", "2@12"},
        };
        for (String[] one : all) {
            fault(one[0], one[1]);
        }
    }

    private static void nesting() {
        CHECK.promise("3 shore, an EXPR within others");
        fault("crosses (((((1)))));", "0@-1");
        fault("crosses ((((((1))))));", "2@14");
        fault("crosses ((((((12345))))));", "2@14");
        fault("crosses ((((((longing))))));", "2@14");
        fault("crosses ((((((foo))))));", "2@14");
        fault("crosses ((((((not 1))))));", "2@14");
        fault("crosses (((((((1)))))));", "2@14");
        fault("crosses (((((()))))));", "1@14");
        fault("crosses ((((((;", "1@14");
        fault("crosses ((((((+1))))));", "1@14");
        fault("crosses ((((((", "1@14");
        fault("crosses (((((( A", "1@15");
        fault("crosses ( ( ( ( ( (\n 1", "2@21");
        // Side by side they are not within one another.
        fault("crosses (((((1)))))+(((((1)))))*(((((1+(1))))));", "2@40");
        fault("crosses (((((1)))))+(((((1)))))*((((1+(1)))));", "0@-1");
        String nots = "not ".repeat(6);
        fault("crosses " + nots + "1;", "0@-1");
        fault("crosses " + nots + "not 1;", "2@32");
        fault("crosses " + nots + "not", "2@32");
        fault("crosses " + nots + "nots", "3@32");
        fault("crosses " + nots + "(" + nots + "1);", "0@-1");
        fault("crosses " + nots + "1 and " + nots + "1 or " + nots + "1;", "0@-1");
        fault("crosses " + nots + "1 and " + nots + "not 1;", "2@62");
        fault("crosses ((((( " + nots + "1 )))));", "0@-1");
    }

    private static void readAsTold() {
        CHECK.promise("3 shore, as told");
        RiverIfs river = Texts.river("if 5 2 9;unless 1023 8 0;person 7 6 5 4;person 1 2 3 0;"
                + "worth 9 - 9;worth 0 8;bridge 6;");
        int[] ifs = {5, 2, 9, 0, 0, 1023, 8, 0, 1, 0};
        for (int i = 0; i < ifs.length; i++) {
            CHECK.same("conditional " + i, river.conditional(i / 5, i % 5), ifs[i]);
        }
        int[] people = {7, 6, 5, 4, 0, 1, 2, 3, 0, 0};
        for (int i = 0; i < people.length; i++) {
            CHECK.same("person " + i, river.person(i / 5, i % 5), people[i]);
        }
        CHECK.same("worth 9", river.worth(9), -9);
        CHECK.same("worth 0", river.worth(0), 8);
        CHECK.same("worth 1", river.worth(1), 0);
        CHECK.same("bridge", river.count(2), 6);
        CHECK.same("again", Texts.shore(river, "unless 1 0 2;person 1 1 1 1;"), 0);
        CHECK.same("bridge without", river.count(2), 4);
        CHECK.same("worth without", river.worth(9), 0);
        CHECK.same("unless", river.conditional(0, 3), 1);
        CHECK.same("again", Texts.shore(river, "if 1 0 2;"), 0);
        CHECK.same("if", river.conditional(0, 3), 0);
    }

    /** A text finds nothing of those ahead of it, good or bad. */
    private static void nothingIsLeft() {
        CHECK.promise("3 shore, nothing is left");
        String full = "unless 5 2 9;unless 3 4 5;person 7 6 5 4;person 1 2 3 0;worth 9 - 9;worth 0 8;"
                + "bridge 6;crosses 1;";
        RiverIfs river = Texts.river(full);
        for (int i = 0; i < 3; i++) {
            CHECK.same("the same again", Texts.shore(river, full), 0);
            CHECK.same("with a fault", Texts.shore(river, full + "x"), 1);
        }
        CHECK.same("another", Texts.shore(river, "person 1 2 3 0;if 1 0 0;"), 0);
        CHECK.same("people", river.count(0), 1);
        CHECK.same("ifs", river.count(1), 1);
        CHECK.same("bridge", river.count(2), 4);
        CHECK.same("if", river.conditional(0, 3), 0);
        CHECK.same("worths", river.worth(9) + river.worth(0), 0);
        CHECK.same("no rule", river.person(0, 7), 0);
        CHECK.same("and back", Texts.shore(river, full), 0);
        CHECK.same("the rule", river.person(1, 7), 1);
        CHECK.same("unless", river.conditional(1, 3), 1);
    }
}
