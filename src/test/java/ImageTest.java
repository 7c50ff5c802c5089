/** Promises 45 and 46: an image, and how it is brought back. */
public final class ImageTest {
    private static final Check CHECK = new Check();

    public static void main(String[] args) {
        none();
        allIsBack();
        actsAreBack();
        anotherImage();
        CHECK.end();
    }

    private static void none() {
        CHECK.promise("46 restore");
        RiverIfs river = new RiverIfs();
        CHECK.same("none", river.restore(), false);
        river.image();
        river.sundays(3);
        CHECK.same("of nobody", river.restore(), true);
        CHECK.same("sunday", river.count(3), 0);
        CHECK.same("a shore", Texts.shore(river, "person 0 0 0 0;"), 0);
        CHECK.same("the image is gone", river.restore(), false);
        CHECK.same("no status", river.count(12) + river.count(13) + river.count(14), 0);
    }

    private static void allIsBack() {
        CHECK.promise("45 image, 46 restore");
        RiverIfs river = Texts.river(Texts.SMALL);
        river.sundays(2);
        river.deny(2, true);
        river.bridge(3);
        river.see(0, 3, true);
        river.bridge(0);
        Texts.shore(river, "x");
        String before = state(river);
        river.image();
        CHECK.same("nothing changes", state(river), before);
        for (int round = 0; round < 2; round++) {
            change(river);
            CHECK.same("all is otherwise", state(river).equals(before), false);
            CHECK.same("restore", river.restore(), true);
            CHECK.same("all is back", state(river), before);
        }
    }

    private static void change(RiverIfs river) {
        river.sundays(5);
        river.has(0, 7, true);
        river.miss(1, 8);
        river.deny(0, true);
        river.bridge(7);
        for (int i = 0; i < 8; i++) {
            river.see(0, i, false);
        }
        river.bridge(9);
        Texts.shore(river, "y");
        river.undo();
        river.sundays(1);
        river.forget();
        river.see(2, 2, true);
        river.see(2, 2, true);
    }

    private static void actsAreBack() {
        CHECK.promise("46 restore, acts");
        RiverIfs river = Texts.river(Texts.SMALL);
        for (int i = 0; i < 43; i++) {
            river.miss(0, (i + 2) % 10);
        }
        river.image();
        for (int i = 0; i < 25; i++) {
            river.undo();
        }
        for (int i = 0; i < 30; i++) {
            river.has(0, 9, i % 2 == 0);
        }
        river.restore();
        for (int left = 39; left >= 0; left--) {
            CHECK.same("undo", river.undo(), left);
            CHECK.same("missed", river.person(0, 1), (left + 4) % 10);
        }
        CHECK.same("none", river.undo(), -1);
        CHECK.same("the image stays", river.restore(), true);
        CHECK.same("acts", river.count(9), 40);
    }

    private static void anotherImage() {
        CHECK.promise("45 image, another one");
        RiverIfs river = Texts.river(Texts.SMALL);
        river.image();
        river.sundays(4);
        river.see(0, 4, true);
        river.image();
        river.sundays(4);
        river.forget();
        river.restore();
        CHECK.same("the later one", river.count(3) + " " + river.count(10) + " " + river.tells(0),
                "4 1 26");
        Texts.feed(river, "z");
        CHECK.same("restore", river.restore(), true);
        CHECK.same("the tape is no part of it", river.count(11), 20);
        CHECK.same("a fault", river.shore(20), 1);
        CHECK.same("restore", river.restore(), true);
        CHECK.same("nor is the place of a fault", river.fault(), 0);
        CHECK.same("but status is", river.count(12), 0);
    }

    private static String state(RiverIfs river) {
        StringBuilder all = new StringBuilder();
        for (int what = 0; what < 15; what++) {
            all.append(river.count(what)).append(' ');
        }
        for (int person = 0; person < river.count(0); person++) {
            for (int what = 0; what < 8; what++) {
                all.append(river.person(person, what)).append(' ');
            }
            all.append(river.tells(person)).append(' ');
        }
        return all.toString();
    }
}
