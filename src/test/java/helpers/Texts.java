import java.nio.charset.StandardCharsets;

/** Feeds texts to a river. */
final class Texts {
    /** A shore of which the tests know every answer: the one of the given tests, by its words. */
    static final String SMALL = "worth 0 3;worth 1 5;worth 2 - 4;worth 3 9;worth 4 1;"
            + "person 1 1 0 15;person 6 0 2 4;person 0 4 1 9;"
            + "if 3 0 3;if 8 4 4;unless 1 0 2;bridge 1;";

    private Texts() {
    }

    static int numberAt(byte[] bytes, int at) {
        int number = 0;
        for (int i = 0; i < 4; i++) {
            int one = at + i < bytes.length ? bytes[at + i] & 255 : 32;
            number = number << 8 | one;
        }
        return number;
    }

    static byte[] bytesOf(String text) {
        return text.getBytes(StandardCharsets.ISO_8859_1);
    }

    static void feed(RiverIfs river, String text) {
        byte[] b = bytesOf(text);
        for (int at = 0; at < b.length; at += 20) {
            river.feed(numberAt(b, at), numberAt(b, at + 4), numberAt(b, at + 8),
                    numberAt(b, at + 12), numberAt(b, at + 16));
        }
    }

    static int shore(RiverIfs river, String text) {
        feed(river, text);
        return river.shore(bytesOf(text).length);
    }

    /** A new river with a text that has no fault. */
    static RiverIfs river(String text) {
        RiverIfs river = new RiverIfs();
        int fault = shore(river, text);
        if (fault != 0) {
            throw new IllegalStateException("fault " + fault + " at " + river.fault() + ": " + text);
        }
        return river;
    }

    /** "fault@place" of a text on a new river, "0@-1" without one. */
    static String faultOf(String text) {
        RiverIfs river = new RiverIfs();
        int fault = shore(river, text);
        return fault + "@" + river.fault();
    }
}
