/** Edges of the tape, of a text's lines and of its FAULTS ('Terms', promises 1 to 4). */
final class TextEdges {
    private static final String EIGHT = "person 0 0 0 0;".repeat(8);
    private static final String TWELVE = "if 0 0 0;".repeat(12);

    private final Edges edges;

    TextEdges(Edges edges) {
        this.edges = edges;
    }

    void all() {
        things();
        worths();
        people();
        ifs();
        theBridge();
        lengthOfAText();
        everyByte();
        tokens();
        whichFault();
        outOfPlace();
        endsTooSoon();
        numbersTooLong();
        numbersNotAsTold();
        tooMany();
        noValue();
        toldAlready();
        aSecond();
        newObject();
        feed();
        shore();
        faultPlace();
    }

    private void things() {
        edges.of("Terms", "THINGS 0 to 9");
        edges.fine("worth 0 1;");
        edges.fine("worth 9 1;");
        edges.fault("worth 10 1;", 2, 6);
        RiverIfs river = Texts.river("worth 0 3;worth 9 4;");
        edges.same("the first", river.worth(0), 3);
        edges.same("the last", river.worth(9), 4);
        edges.noSuch("below", () -> river.worth(-1));
        edges.noSuch("above", () -> river.worth(10));
    }

    private void worths() {
        edges.of("Terms", "WORTH (-9 to 9; 0 without)");
        RiverIfs river = Texts.river("worth 0 9;worth 1 - 9;worth 2 0;worth 3 - 0;worth 4 -1;worth 5 1;");
        int[] due = {9, -9, 0, 0, -1, 1, 0, 0, 0, 0};
        for (int thing = 0; thing < 10; thing++) {
            edges.same("worth " + thing, river.worth(thing), due[thing]);
        }
        edges.fault("worth 1 10;", 2, 8);
        edges.fault("worth 1 - 10;", 2, 10);
        edges.of("Terms", "being NUMBERS ('-': below 0)");
        edges.fault("worth 1 - - 1;", 1, 10);
        edges.fault("worth 1 -;", 1, 9);
        edges.fault("worth - 1 1;", 1, 6);
        edges.fault("person 0 0 0 - 1;", 1, 13);
    }

    private void people() {
        edges.of("Terms", "PEOPLE 0, 1 .. (at most 8)");
        RiverIfs river = Texts.river("person 0 0 0 0;".repeat(7) + "person 8 7 6 5;");
        edges.same("eight", river.count(0), 8);
        edges.same("the eighth", river.person(7, 0) + " " + river.person(7, 1) + " "
                + river.person(7, 2) + " " + river.person(7, 3), "8 7 6 5");
        edges.noSuch("the ninth", () -> river.person(8, 0));
        edges.noSuch("below the first", () -> river.person(-1, 0));
        edges.of("Terms", "HAS (bits of THINGS)");
        edges.same("none, all", hasOf("person 0 0 0 0;") + " " + hasOf("person 1023 0 0 0;"), "0 1023");
        edges.fault("person 1024 0 0 0;", 2, 7);
        edges.of("Terms", "MISSED (a THING)");
        edges.fine("person 0 0 0 0;");
        edges.fine("person 0 9 0 0;");
        edges.fault("person 0 10 0 0;", 2, 9);
        edges.of("Terms", "SPARED (a THING)");
        edges.fine("person 0 0 9 0;");
        edges.fault("person 0 0 10 0;", 2, 11);
        edges.of("Terms", "LONGING (0 to 99)");
        edges.same("99", Texts.river("person 0 0 0 99;").person(0, 3), 99);
        edges.same("0", Texts.river("person 0 0 0 0;").person(0, 3), 0);
        edges.fault("person 0 0 0 100;", 2, 13);
    }

    private static int hasOf(String text) {
        return Texts.river(text).person(0, 0);
    }

    private void ifs() {
        edges.of("Terms", "IFS 0, 1 .. (at most 12)");
        RiverIfs river = Texts.river("if 0 0 0;".repeat(11) + "unless 7 8 9;");
        edges.same("twelve", river.count(1), 12);
        edges.same("the twelfth", river.conditional(11, 0) + " " + river.conditional(11, 1) + " "
                + river.conditional(11, 2) + " " + river.conditional(11, 3), "7 8 9 1");
        edges.noSuch("the thirteenth", () -> river.conditional(12, 0));
        edges.noSuch("below the first", () -> river.conditional(-1, 0));
        edges.of("Terms", "NEEDS, BARS (bits)");
        for (String word : new String[] {"if", "unless"}) {
            int at = word.length() + 1;
            edges.fine(word + " 0 0 0;");
            edges.fine(word + " 1023 1023 0;");
            edges.fault(word + " 1024 0 0;", 2, at);
            edges.fault(word + " 0 1024 0;", 2, at + 2);
        }
        edges.of("Terms", "GIVES (a THING)");
        for (String word : new String[] {"if", "unless"}) {
            edges.fine(word + " 0 0 9;");
            edges.fault(word + " 0 0 10;", 2, word.length() + 5);
        }
    }

    private void theBridge() {
        edges.of("Terms", "THE BRIDGE bears so many (1 to 8; 4 without)");
        edges.same("one", Texts.river("bridge 1;").count(2), 1);
        edges.same("eight", Texts.river("bridge 8;").count(2), 8);
        edges.same("without", Texts.river("worth 1 1;").count(2), 4);
        edges.fault("bridge 0;", 2, 7);
        edges.fault("bridge 9;", 2, 7);
        edges.fault("bridge - 1;", 1, 7);
        RiverIfs river = Texts.river("bridge 7;");
        edges.same("another shore", Texts.shore(river, "worth 1 1;"), 0);
        edges.same("without, behind one that had it", river.count(2), 4);
    }

    private void lengthOfAText() {
        edges.of("Terms", "A TEXT of at most 700 bytes tells it");
        String long700 = " ".repeat(691) + "bridge 3;";
        RiverIfs river = Texts.river(long700);
        edges.same("up to the last byte", river.count(2), 3);
        edges.fault(" ".repeat(699) + "x", 1, 699);
        edges.fault(" ".repeat(694) + "bridge", 1, 700);
        edges.fine(" ".repeat(700));
        RiverIfs full = new RiverIfs();
        Texts.feed(full, long700);
        edges.same("no more is fed", full.feed(0, 0, 0, 0, 0), -1);
        edges.illegal("701 of 700", () -> full.shore(701));
    }

    /** Between a word and a NUMBER only blanks count for nothing: all 256 bytes. */
    private void everyByte() {
        edges.of("Terms", "blanks (32, 10) between them count for nothing");
        for (int b = 0; b < 256; b++) {
            String due = "1@5";
            if (b == 32 || b == 10 || b == '0') {
                due = "0@-1";
            } else if (b >= '1' && b <= '9') {
                due = "2@5";
            } else if (b >= 'a' && b <= 'z') {
                due = "1@0";
            }
            edges.same("byte " + b, Texts.faultOf("worth" + (char) b + "1 1;"), due);
        }
        edges.fine("\n \nworth\n\n1   -\n9 \n ; \n");
        edges.fine("worth1-9;bridge8;if0 0 0;crosses(1);");
        for (int b = 0; b < 256; b++) {
            edges.same("alone, byte " + b, Texts.faultOf(String.valueOf((char) b)),
                    b == 32 || b == 10 ? "0@-1" : "1@0");
        }
    }

    private void tokens() {
        edges.of("Terms", "words (a .. z, the longest row)");
        edges.fault("worthworth 1 1;", 1, 0);
        edges.fault("worth1 1;worths 2 2;", 1, 9);
        edges.fault("wor th 1 1;", 1, 0);
        edges.fault("wortH 1 1;", 1, 0);
        edges.fault("north 1 1;", 1, 0);
        edges.fault("crosses 1 orlast;", 1, 10);
        edges.fine("crosses 1or last;");
        edges.of("Terms", "NUMBERS (1 to 4 digits)");
        edges.fine("person 0009 0009 0009 0009;");
        edges.fault("person 00009 0 0 0;", 2, 7);
        edges.fine("crosses 0;");
        edges.fine("crosses 9999;");
        edges.fault("crosses 10000;", 2, 8);
        edges.fault("crosses 99 99;", 1, 11);
        edges.fault("if 0 00;", 1, 7);
        edges.of("Terms", "* any number of times");
        edges.fine("");
        edges.fine("worth 1 1;");
        edges.fine("crosses 1" + "+1".repeat(345) + ";");
        edges.same("as many as there are places", Texts.river("person 0 0 0 0;crosses 1"
                + "+1".repeat(330) + "=331;").person(0, 7), 1);
        edges.of("Terms", "[ ] perhaps");
        edges.fine("crosses 1;");
        edges.fine("crosses 1<1;");
        edges.fault("crosses 1<1<1;", 1, 11);
        edges.fault("crosses 1=1<1;", 1, 11);
    }

    private void whichFault() {
        edges.of("Terms", "FAULTS, the first along the text");
        edges.fault("worth 10 1;x", 2, 6);
        edges.fault("x;worth 10 1;", 1, 0);
        edges.fault("worth 1 1;worth 1 10;", 4, 16);
        edges.fault(EIGHT + "person 1024 0 0 0;", 2, 120);
        edges.fault("bridge 1;bridge 9;", 5, 9);
        edges.of("Terms", "at a TOKEN's first byte");
        edges.fault("worth \n 12345 1;", 2, 8);
        edges.fault(" \n foo", 1, 3);
        edges.fault("crosses  foo;", 3, 9);
        edges.of("Terms", "of one TOKEN the least");
        edges.fault("12345", 1, 0);
        edges.fault("worth 1 1;worth 00001 1;", 2, 16);
        edges.fault("crosses ((((((foo", 2, 14);
        edges.fault("bridge 1;crosses bridge;", 3, 17);
        edges.fault("crosses 1 crosses", 1, 10);
        edges.fault(EIGHT + "worth person", 1, 126);
        edges.fault("worth 1 1;worth 1 1 99999;", 4, 16);
        edges.fault("worth 1 1 99999;", 1, 10);
    }

    private void outOfPlace() {
        edges.of("Terms", "1 a TOKEN that can't stand there, or is none");
        edges.fault("worth 1 1;;", 1, 10);
        edges.fault("worth 1 1 1;", 1, 10);
        edges.fault("worth x 1;", 1, 6);
        edges.fault("bridge 1 2;", 1, 9);
        edges.fault("person 0 0 0 0 0;", 1, 15);
        edges.fault("if 0 0 0 0;", 1, 9);
        edges.fault("unless 0 0 0 0;", 1, 13);
        edges.fault("crosses ;", 1, 8);
        edges.fault("crosses 1);", 1, 9);
        edges.fault("crosses ();", 1, 9);
        edges.fault("crosses 1 not 1;", 1, 10);
        edges.fault("crosses 1 longing;", 1, 10);
        edges.fault("crosses - 1;", 1, 8);
        edges.fault("crosses 1 > 0;", 1, 10);
        edges.fault("crosses 1 + \u00ff;", 1, 12);
    }

    private void endsTooSoon() {
        edges.of("Terms", "(the text's length where it ends too soon)");
        String[] lines = {"worth 1 - 9", "worth 1 9", "person 1023 9 9 99", "if 1023 1023 9",
            "unless 1023 1023 9", "bridge 8", "crosses not ( 1 + longing ) < 2 and 3 or 0 * 1 / 5"};
        for (String line : lines) {
            String text = "";
            for (String token : line.split(" ")) {
                text += (text.isEmpty() ? "" : " ") + token;
                edges.fault(text, 1, text.length());
                edges.fault(text + " \n", 1, text.length() + 2);
            }
            edges.fine(text + ";");
        }
    }

    private void numbersTooLong() {
        edges.of("Terms", "2 one that can, but is too much: a NUMBER of 5 digits or more");
        String[] lines = {"worth #;", "worth 1 #;", "worth 1 - #;", "person #;", "person 0 #;",
            "person 0 0 #;", "person 0 0 0 #;", "if #;", "if 0 #;", "if 0 0 #;", "unless #;",
            "unless 0 #;", "unless 0 0 #;", "bridge #;", "crosses #;", "crosses (#;",
            "crosses not #;", "crosses 1+#;", "crosses 1*#;", "crosses 1<#;", "crosses 1 or #;"};
        for (String line : lines) {
            int at = line.indexOf('#');
            String four = Texts.faultOf(line.replace("#", "0001"));
            edges.same("four digits, " + line, four.startsWith("2"), false);
            edges.fault(line.replace("#", "00001"), 2, at);
            edges.fault(line.replace("#", "12345678901234567890"), 2, at);
        }
    }

    private void numbersNotAsTold() {
        edges.of("Terms", "or (not in an EXPR) not as told (bits to 1023)");
        edges.fine("person 1023 9 9 99;if 1023 1023 9;unless 1023 1023 9;bridge 8;worth 9 9;");
        String[] lines = {"person 1024 9 9 99;", "person 9999 9 9 99;", "person 0 9999 9 99;",
            "person 0 9 9999 99;", "if 9999 0 0;", "if 0 9999 0;", "if 0 0 9999;",
            "bridge 9999;", "worth 9999 0;", "worth 0 9999;", "worth 0 - 9999;"};
        for (String line : lines) {
            edges.same(line, Texts.faultOf(line).substring(0, 2), "2@");
        }
        edges.fine("crosses 1024;");
        edges.fine("crosses 9999*9999+1024;");
    }

    private void tooMany() {
        edges.of("Terms", "the first TOKEN of the 9th of PEOPLE, the 13th IF");
        edges.fine(EIGHT);
        edges.fault(EIGHT + "person 0 0 0 0;", 2, 120);
        edges.fault(EIGHT + " person", 2, 121);
        edges.fault(EIGHT + "bridge 1;person", 2, 129);
        edges.fine(TWELVE);
        edges.fault(TWELVE + "if 0 0 0;", 2, 108);
        edges.fault(TWELVE + "unless 0 0 0;", 2, 108);
        edges.fine("unless 0 0 0;".repeat(12));
        edges.fault("unless 0 0 0;".repeat(12) + "if", 2, 156);
        edges.fine(EIGHT + TWELVE);
        edges.fine(TWELVE + EIGHT);
        edges.of("Terms", "of an EXPR within 6 others (a NUMBER, any word, a parenthesis)");
        for (String first : new String[] {"1", "longing", "(1)", "not 1"}) {
            if (first.charAt(0) != '(') {
                edges.fine("crosses (((((" + first + ")))));");
            }
            edges.fault("crosses ((((((" + first + "))))));", 2, 14);
        }
        edges.fault("crosses ((((((word", 2, 14);
        edges.fault("crosses ((((((12345", 2, 14);
        edges.fault("crosses ((((((", 1, 14);
        edges.fault("crosses (((((()", 1, 14);
        edges.fault("crosses ((((((-", 1, 14);
        edges.fault("crosses (((((word", 3, 13);
        edges.fine("crosses (((((1)))))*(((((1)))))+(1);");
        edges.fault("crosses 1+((((1*(1<(1)))));", 2, 20);
        edges.of("Terms", "the seventh 'not' side by side");
        String six = "not ".repeat(6);
        edges.fine("crosses " + six + "1;");
        edges.fault("crosses " + six + "not 1;", 2, 32);
        edges.fine("crosses " + six + "(" + six + "1) and " + six + "1 or " + six + "1;");
        edges.fault("crosses 1 or " + six + "not 1;", 2, 37);
    }

    private void noValue() {
        edges.of("Terms", "3 any word where a PART must stand that is no VALUE");
        for (String value : new String[] {"longing", "here", "there", "spared", "sunday", "flowers",
            "last"}) {
            edges.fine("crosses " + value + ";");
            edges.fault("crosses " + value + "s;", 3, 8);
            edges.fault("crosses " + value.substring(2) + ";", 3, 8);
        }
        for (String word : new String[] {"or", "and", "worth", "person", "if", "unless", "bridge",
            "crosses", "a", "z", "missed", "has"}) {
            edges.fault("crosses " + word + ";", 3, 8);
            edges.fault("crosses 1+" + word + ";", 3, 10);
            edges.fault("crosses not " + word + ";", 3, 12);
            edges.fault("crosses 1=" + word + ";", 3, 10);
            edges.fault("crosses (" + word + ";", 3, 9);
        }
        edges.fault("crosses 1+not 1;", 3, 10);
        edges.fault("crosses 1<not 1;", 3, 10);
        edges.fault("crosses 1*not 1;", 3, 10);
        edges.fault("crosses word", 3, 8);
    }

    private void toldAlready() {
        edges.of("Terms", "4 a THING of which WORTH is told already");
        for (int thing = 0; thing < 10; thing++) {
            String line = "worth " + thing + " 0;";
            edges.fault(line + line, 4, 16);
            edges.fine(line + "worth " + (thing + 1) % 10 + " 0;");
        }
        RiverIfs river = Texts.river("worth 1 1;");
        edges.same("told on another shore", Texts.shore(river, "worth 1 2;"), 0);
        edges.same("a fault", Texts.shore(river, "worth 1 3;x"), 1);
        edges.same("told in a text with a FAULT", Texts.shore(river, "worth 1 4;"), 0);
        edges.same("worth", river.worth(1), 4);
    }

    private void aSecond() {
        edges.of("Terms", "5 a second 'bridge', 'crosses'");
        edges.fine("bridge 4;crosses 1;");
        edges.fault("bridge 4;bridge 4;", 5, 9);
        edges.fault("crosses 1;crosses 1;", 5, 10);
        edges.fault("bridge 4;crosses 1;bridge", 5, 19);
        edges.fault("crosses 1;bridge 4;crosses", 5, 19);
        RiverIfs river = Texts.river("bridge 4;crosses 1;");
        edges.same("on another shore", Texts.shore(river, "bridge 5;crosses 0;"), 0);
        edges.same("a fault", Texts.shore(river, "bridge 6;crosses 0;x"), 1);
        edges.same("told in a text with a FAULT", Texts.shore(river, "bridge 7;crosses 0;"), 0);
    }

    private void newObject() {
        edges.of("Promise 1", "Nobody.");
        RiverIfs river = new RiverIfs();
        edges.same("people, ifs", river.count(0) + " " + river.count(1), "0 0");
        edges.noSuch("the first", () -> river.person(0, 0));
        edges.noSuch("the first if", () -> river.conditional(0, 0));
        edges.same("bridge, sunday, tape", river.count(2) + " " + river.count(3) + " "
                + river.count(11), "4 0 0");
        edges.same("no image, no act", river.restore() + " " + river.undo(), "false -1");
        edges.same("all the same as an empty text's", Texts.river("").count(0), 0);
    }

    private void feed() {
        edges.of("Promise 2", "of each number the highest first: how many it has");
        RiverIfs order = new RiverIfs();
        edges.same("twenty", order.feed(0x62726964, 0x67652036, 0x3b776f72, 0x74682037, 0x20393b00), 20);
        edges.same("nineteen of them", order.shore(19), 0);
        edges.same("bridge, worth", order.count(2) + " " + order.worth(7), "6 9");
        edges.of("Promise 2", "NONE, and none come, if it would have more than 700");
        RiverIfs river = new RiverIfs();
        Texts.feed(river, " ".repeat(660) + "bridge 5;           ");
        edges.same("680", river.count(11), 680);
        edges.same("700", river.feed(0x20202020, 0x20202020, 0x20202020, 0x776f7274, 0x68202020), 700);
        edges.same("more", river.feed(0x78787878, 0x78787878, 0x78787878, 0x78787878, 0x78787878), -1);
        edges.same("none came", river.count(11), 700);
        edges.same("no call of another kind was refused", river.count(12) + river.count(13)
                + river.count(14), 0);
        edges.same("it ends in 'worth'", river.shore(700) + "@" + river.fault(), "1@700");
        edges.same("room again", river.feed(0, 0, 0, 0, 0), 20);
    }

    private void shore() {
        edges.of("Promise 3", "The tape's first n bytes (it is empty then) are a SHORE, all anew: 0");
        RiverIfs river = new RiverIfs();
        Texts.feed(river, "bridge 3;bridge 5;");
        edges.same("nine of twenty", river.shore(9) + " " + river.count(2), "0 3");
        edges.same("it is empty", river.count(11), 0);
        edges.same("none of none", river.shore(0), 0);
        edges.same("anew", river.count(2), 4);
        allAnew();
        edges.of("Promise 3", "or the FAULT (all stays, but STATUS)");
        RiverIfs old = busy();
        String before = stateOf(old);
        edges.same("a fault", Texts.shore(old, "person 0 0 0 0;worth 0 9;crosses 1"), 1);
        edges.same("status", old.count(12), 1);
        edges.same("all stays", stateOf(old), before);
        edges.same("the image stays", old.restore(), true);
        edges.of("Promise 3", "ACTS, what is SEEN, the image are gone");
        RiverIfs next = busy();
        edges.same("no fault", Texts.shore(next, ""), 0);
        edges.same("acts, seen", next.count(9) + " " + next.count(10), "0 0");
        edges.same("undo, restore", next.undo() + " " + next.restore(), "-1 false");
        edges.of("Promise 3", "IllegalArgumentException: the tape has not so many, n below 0 "
                + "(nothing changes)");
        RiverIfs kept = busy();
        Texts.shore(kept, " x");
        Texts.feed(kept, "bridge 6;");
        String all = stateOf(kept) + kept.count(11) + kept.count(12) + kept.fault();
        for (int n : new int[] {21, 700, -1, Integer.MIN_VALUE, Integer.MAX_VALUE}) {
            edges.illegal("n " + n, () -> kept.shore(n));
        }
        edges.same("nothing changes", stateOf(kept) + kept.count(11) + kept.count(12) + kept.fault(),
                all);
        edges.same("the image stays", kept.restore(), true);
        edges.same("all twenty", kept.shore(20) + " " + kept.count(2), "0 6");
        edges.illegal("one of none", () -> kept.shore(1));
    }

    /** The rows of texts that went ahead, good or bad, are used again: nothing of them is left. */
    private void allAnew() {
        String full = "unless 1 0 1;".repeat(12) + "worth 0 5;worth 9 - 9;bridge 8;crosses 1;"
                + "person 2 2 2 2;".repeat(8);
        RiverIfs river = Texts.river(full);
        for (int round = 0; round < 3; round++) {
            river.sundays(20);
            river.deny(11, true);
            edges.same("flowers, crossed", river.person(7, 4) + " " + river.count(4), "20 255");
            edges.same("the same, all anew", Texts.shore(river, full), 0);
            edges.same("flowers, longing", river.person(7, 4) + " " + river.person(7, 3), "0 2");
            edges.same("sunday, crossed, denied", river.count(3) + " " + river.count(4) + " "
                    + river.count(5), "0 0 0");
        }
        edges.same("a fault behind all of it", Texts.shore(river, full + "x"), 1);
        edges.same("less", Texts.shore(river, "if 1 0 2;person 0 0 0 9;"), 0);
        edges.same("people, ifs, bridge", river.count(0) + " " + river.count(1) + " " + river.count(2),
                "1 1 4");
        edges.same("worths", river.worth(0) + " " + river.worth(9), "0 0");
        edges.same("no 'unless', no rule", river.conditional(0, 3) + " " + river.person(0, 7), "0 0");
        edges.same("nothing", Texts.shore(river, ""), 0);
        edges.same("people, ifs, bridge", river.count(0) + " " + river.count(1) + " " + river.count(2),
                "0 0 4");
    }

    private static RiverIfs busy() {
        RiverIfs river = Texts.river(Texts.SMALL);
        river.sundays(2);
        river.deny(1, true);
        river.has(0, 9, true);
        river.see(0, 1, true);
        river.image();
        return river;
    }

    private static String stateOf(RiverIfs river) {
        StringBuilder all = new StringBuilder();
        for (int what = 0; what < 11; what++) {
            all.append(river.count(what)).append(' ');
        }
        for (int i = 0; i < 8 * river.count(0); i++) {
            all.append(river.person(i / 8, i % 8)).append(' ');
        }
        return all.append(river.worth(3)).append(' ').append(river.tells(0)).append(' ').toString();
    }

    private void faultPlace() {
        edges.of("Promise 4", "The place of the latest shore()'s FAULT; NONE without");
        RiverIfs river = new RiverIfs();
        edges.same("no shore yet", river.fault(), -1);
        Texts.shore(river, "  x");
        edges.same("the first", river.fault(), 2);
        Texts.shore(river, "worth");
        edges.same("the latest", river.fault(), 5);
        edges.illegal("refused", () -> river.shore(1));
        edges.same("it stays", river.fault(), 5);
        Texts.shore(river, "y");
        edges.same("at the first byte", river.fault(), 0);
        Texts.shore(river, "");
        edges.same("without", river.fault(), -1);
    }
}
