import java.util.function.LongSupplier;

/** Counts the answers that are due and those that are not. */
final class Check {
    private final String name;
    private String title;
    private int passed = 0;
    private int failed = 0;

    Check(String name) {
        this.name = name;
        this.title = name;
    }

    /** What is checked from here on is told under this title. */
    void under(String newTitle) {
        title = newTitle;
    }

    void due(String what, long got, long want) {
        count(got == want, what + " answered " + got + ", due is " + want);
    }

    void dueShare(String what, double got, double want) {
        count(Double.doubleToLongBits(got) == Double.doubleToLongBits(want),
                what + " answered " + got + ", due is " + want);
    }

    void dueText(String what, String got, String want) {
        count(got.equals(want), what + " answered " + got + ", due is " + want);
    }

    /** The call must throw just this exception, and change nothing. */
    void refused(BriefBuilder x, String what, Class<?> exception, LongSupplier call) {
        long before = x.digest();
        String got = outcome(call);
        count(got.equals(exception.getName()), what + " answered " + got + ", due is " + exception.getName());
        count(x.digest() == before, what + " changed something");
    }

    static String outcome(LongSupplier call) {
        try {
            return Long.toString(call.getAsLong());
        } catch (RuntimeException e) {
            return e.getClass().getName();
        }
    }

    int checks() {
        return passed + failed;
    }

    private void count(boolean right, String complaint) {
        if (right) {
            passed++;
        } else {
            failed++;
            System.out.println(title + ": " + complaint);
        }
    }

    void close() {
        System.out.println(name + ": " + passed + " passed, " + failed + " failed");
        if (failed != 0) {
            System.exit(1);
        }
    }
}
