import com.sun.management.ThreadMXBean;
import java.lang.management.ManagementFactory;
import java.util.Arrays;

/** All calls of one run live in one room: a call makes nothing, a new object little. */
public final class RoomTest {
    // An object's rows are some 7,700 elements, most of them ints.
    private static final long MOST_FOR_ONE = 40_000;
    private static final long MOST_FOR_CALLS = 20_000;

    public static void main(String[] args) {
        ThreadMXBean beans = (ThreadMXBean) ManagementFactory.getThreadMXBean();
        Check check = new Check().promise("the room");
        int[] text = numbers();
        long sum = 0;
        long calls = 0;
        long one = 0;
        // The first rounds load what the machine itself needs.
        for (int round = 0; round < 4; round++) {
            long start = beans.getCurrentThreadAllocatedBytes();
            RiverIfs river = new RiverIfs();
            long made = beans.getCurrentThreadAllocatedBytes();
            for (int i = 0; i < 40; i++) {
                sum += tell(river, text) + ask(river, i);
            }
            long end = beans.getCurrentThreadAllocatedBytes();
            one = made - start;
            calls = end - made;
        }
        check.same("bytes of an object: " + one, one < MOST_FOR_ONE, true);
        check.same("bytes of all calls: " + calls, calls < MOST_FOR_CALLS, true);
        check.same("answers", sum != 0, true);
        check.end();
    }

    private static int[] numbers() {
        byte[] b = Texts.bytesOf(Texts.SMALL + "crosses (longing+here)*2<there or not sunday=3;");
        int[] numbers = new int[(b.length + 19) / 20 * 5];
        for (int i = 0; i < numbers.length; i++) {
            numbers[i] = Texts.numberAt(b, 4 * i);
        }
        return Arrays.copyOf(numbers, numbers.length);
    }

    private static int tell(RiverIfs river, int[] text) {
        int size = 0;
        for (int i = 0; i < text.length; i += 5) {
            size = river.feed(text[i], text[i + 1], text[i + 2], text[i + 3], text[i + 4]);
        }
        return river.shore(size) + river.fault();
    }

    private static int ask(RiverIfs river, int i) {
        int sum = river.has(0, 7, true) + river.miss(1, 5) + river.sundays(3) + river.bridge(2)
                + (river.deny(i % 3, true) ? 1 : 0) + river.undo();
        river.image();
        for (int what = 0; what < 15; what++) {
            sum += river.count(what) + river.person(what % 3, what % 8);
        }
        sum += river.conditional(0, 0) + river.worth(3) + river.crossing(60) + river.then(0, 60, 0)
                + river.first(1) + river.waiting(2, 60) + river.toBear(60) + river.comes(i)
                + river.why(i, 4) + river.needed(i, 4) + river.fewest(i, 4) + river.like(0, 0)
                + (river.leads(0, 4) ? 1 : 0) + river.toSend(2) + river.happiest(1)
                + river.critical(0) + river.bestMissed(0) + river.common(0, 1)
                + river.apart(0, 1) + river.unhad() + river.resting() + river.sets(4)
                + river.toDeny(i, 4) + river.sources(4) + river.times(0, 60)
                + river.fullest(60, 0) + river.see(0, 1, true) + river.tells(0)
                + river.look(0, 0) + river.game(0, 1, 0) + river.years(i, 60, 0);
        river.forget();
        return sum + (river.restore() ? 1 : 0);
    }
}
