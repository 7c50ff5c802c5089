/** Promises 39 to 42: what is SEEN, what it tells, and where to look next. */
public final class SeenTest {
    private static final Check CHECK = new Check();
    private static final String TWO = "if 2 0 3;person 1 0 0 0;person 0 0 0 0;";

    public static void main(String[] args) {
        see();
        tellsAndLook();
        forget();
        CHECK.end();
    }

    private static void see() {
        CHECK.promise("39 see");
        RiverIfs river = Texts.river(TWO);
        for (int many = 1; many <= 8; many++) {
            CHECK.same("see", river.see(many % 2, many, many < 4), many);
        }
        CHECK.same("the ninth", river.see(0, 0, true), -1);
        CHECK.same("it stays", river.count(10), 8);
        CHECK.same("refused", river.count(14), 1);
        CHECK.noSuch("person ahead of that", () -> river.see(2, 0, true));
        CHECK.noSuch("person -1", () -> river.see(-1, 0, true));
        CHECK.noSuch("thing 10", () -> river.see(0, 10, true));
        CHECK.noSuch("thing -1", () -> river.see(0, -1, true));
        CHECK.same("refused", river.count(14), 1);
        CHECK.same("no act", river.count(9) + river.count(13), 0);
    }

    private static void tellsAndLook() {
        CHECK.promise("40 tells, 41 look");
        RiverIfs river = Texts.river(TWO);
        told(river, 0, "1023 3 2");
        river.see(0, 3, true);
        told(river, 0, "10 1 1");
        told(river, 1, "1023 3 2");
        river.see(0, 1, false);
        told(river, 0, "8 0 0");
        river.see(1, 0, true);
        told(river, 0, "8 0 0");
        told(river, 1, "1 0 0");
        river.deny(0, true);
        told(river, 0, "8 0 0");
        river.see(0, 3, false);
        told(river, 0, "0 -1 0");
        told(river, 1, "1 0 0");
        river.forget();
        // What one has is there, whatever is missed.
        river.see(0, 0, false);
        told(river, 0, "0 -1 0");
        river.forget();
        river.see(0, 3, false);
        river.see(0, 1, false);
        told(river, 0, "1013 2 1");
        river.has(0, 2, true);
        told(river, 0, "1013 4 1");
        RiverIfs other = Texts.river(TWO);
        CHECK.same("look of the one", other.look(0, 0) + " " + other.look(0, 1), "3 2");
        other.see(1, 0, true);
        CHECK.same("look of the other", other.look(1, 0) + " " + other.look(1, 1), "0 0");
        CHECK.same("look of the one", other.look(0, 0) + " " + other.look(0, 1), "3 2");
        CHECK.noSuch("tells 2", () -> river.tells(2));
        CHECK.noSuch("tells -1", () -> river.tells(-1));
        CHECK.noSuch("look 2", () -> river.look(2, 0));
        CHECK.noSuch("look -1", () -> river.look(-1, 0));
        CHECK.noSuch("what 2", () -> river.look(0, 2));
        CHECK.noSuch("what -1", () -> river.look(0, -1));
    }

    private static void told(RiverIfs river, int person, String due) {
        CHECK.same("tells, look " + person, river.tells(person) + " " + river.look(person, 0) + " "
                + river.look(person, 1), due);
    }

    private static void forget() {
        CHECK.promise("42 forget");
        RiverIfs river = Texts.river(TWO);
        river.see(0, 3, true);
        river.see(1, 3, true);
        river.forget();
        CHECK.same("none", river.count(10), 0);
        CHECK.same("tells", river.tells(0) + " " + river.tells(1), "1023 1023");
        CHECK.same("anew", river.see(0, 3, false), 1);
        new RiverIfs().forget();
    }
}
