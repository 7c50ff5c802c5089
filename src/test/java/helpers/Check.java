import java.util.NoSuchElementException;

/** Counts answers that are not as due, and tells them. */
final class Check {
    /** A call of the class under test. */
    interface Call {
        Object answer();
    }

    private static final long MOST_MILLIS = 300_000;

    private int wrong = 0;
    private int looked = 0;
    private volatile String about = "";

    Check() {
        Thread watch = new Thread(this::endLongRuns);
        watch.setDaemon(true);
        watch.start();
    }

    /** A call that doesn't end is not as due, either. */
    private void endLongRuns() {
        try {
            Thread.sleep(MOST_MILLIS);
        } catch (InterruptedException e) {
            return;
        }
        System.out.println(about + ": a call doesn't end");
        Runtime.getRuntime().halt(1);
    }

    /** What the following answers belong to. */
    Check promise(String name) {
        about = name;
        return this;
    }

    void same(String what, Object got, Object due) {
        looked++;
        if (!String.valueOf(got).equals(String.valueOf(due))) {
            wrong++;
            System.out.println(about + ": " + what + " answered " + got + ", due is " + due);
        }
    }

    void noSuch(String what, Call call) {
        same(what, outcome(call), "throws NoSuchElementException");
    }

    void illegal(String what, Call call) {
        same(what, outcome(call), "throws IllegalArgumentException");
    }

    static Object outcome(Call call) {
        try {
            return call.answer();
        } catch (NoSuchElementException e) {
            return thrown(e, NoSuchElementException.class);
        } catch (IllegalArgumentException e) {
            return thrown(e, IllegalArgumentException.class);
        } catch (RuntimeException e) {
            return "throws " + e.getClass().getName();
        }
    }

    /** A class below the one that is due (NumberFormatException, say) is not the one that is due. */
    private static String thrown(RuntimeException e, Class<?> due) {
        return "throws " + (e.getClass() == due ? due.getSimpleName() : e.getClass().getName());
    }

    void end() {
        System.out.println(wrong + " of " + looked + " answers are not as due");
        if (wrong != 0 || looked == 0) {
            System.exit(1);
        }
    }
}
