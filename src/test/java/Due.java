/** Counts the answers of a test that are not as due, and ends it with exit code 1 if there were any. */
final class Due {
    private static final int MOST_PRINTED = 40;

    private final String name;
    private long asked = 0;
    private long wrong = 0;

    Due(String name) {
        this.name = name;
    }

    void is(String call, long got, long want) {
        asked++;
        if (got != want) {
            wrong++;
            if (wrong <= MOST_PRINTED) {
                System.out.println(name + ": " + call + " answered " + got + ", due is " + want);
            }
        }
    }

    void is(String call, String got, String want) {
        is(call + "\n  due is " + want + "\n  it is  " + got + "\n  the same (1) or not", got.equals(want), true);
    }

    void is(String call, boolean got, boolean want) {
        is(call, got ? 1 : 0, want ? 1 : 0);
    }

    void yes(String call, boolean got) {
        is(call, got, true);
    }

    void no(String call, boolean got) {
        is(call, got, false);
    }

    void end() {
        System.out.println(name + ": " + asked + " answers, " + wrong + " not as due");
        if (wrong != 0 || asked == 0) {
            System.exit(1);
        }
    }
}
