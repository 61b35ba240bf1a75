/** Counts the answers that are not the ones that are due. */
final class Due {
    private static final int MOST_PRINTED = 40;

    private int wrong = 0;
    private String heading = "";

    /** What the answers that follow stand for, up to the next heading. */
    void about(String text) {
        heading = text;
    }

    void is(String call, long got, long want) {
        if (got != want) {
            tell(call + " answered " + got + ", due is " + want);
        }
    }

    void is(String call, boolean got, boolean want) {
        if (got != want) {
            tell(call + " answered " + got + ", due is " + want);
        }
    }

    void is(String call, String got, String want) {
        if (!want.equals(got)) {
            tell(call + " answered " + got + ", due is " + want);
        }
    }

    void outOfBounds(String call, Runnable action) {
        throwsExactly(call, action, IndexOutOfBoundsException.class);
    }

    void illegal(String call, Runnable action) {
        throwsExactly(call, action, IllegalArgumentException.class);
    }

    /** The very class: what the machine itself throws is of a class below, and is wrong. */
    private void throwsExactly(String call, Runnable action, Class<?> want) {
        Class<?> got = null;
        try {
            action.run();
        } catch (RuntimeException e) {
            got = e.getClass();
        }
        if (got != want) {
            tell(call + " threw " + got + ", due is " + want);
        }
    }

    void tell(String text) {
        wrong++;
        if (wrong <= MOST_PRINTED) {
            System.out.println(heading + text);
        }
    }

    void end() {
        if (wrong != 0) {
            System.out.println(wrong + " answers are not as due");
            System.exit(1);
        }
    }
}
