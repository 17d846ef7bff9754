/** Counts the answers that are not due, and tells each of them. */
final class Check {
    /** A call that may throw. */
    interface Call {
        long answer();
    }

    private final String title;
    private int wrong;
    private int checked;

    Check(String title) {
        this.title = title;
    }

    void due(String call, long got, long want) {
        checked++;
        if (got != want) {
            tell(call + " answered " + got + ", due is " + want);
        }
    }

    void due(String call, double got, double want) {
        checked++;
        if (Double.compare(got, want) != 0) {
            tell(call + " answered " + got + ", due is " + want);
        }
    }

    /** The call has to throw this very exception, not one of its subclasses, and no other one. */
    void dueThrow(String name, Class<? extends RuntimeException> wanted, Call call) {
        checked++;
        try {
            long got = call.answer();
            tell(name + " answered " + got + ", due is " + wanted.getSimpleName());
        } catch (RuntimeException e) {
            if (e.getClass() != wanted) {
                tell(name + " threw " + e + ", due is " + wanted.getSimpleName());
            }
        }
    }

    void dueIndex(String name, Call call) {
        dueThrow(name, IndexOutOfBoundsException.class, call);
    }

    void dueArgument(String name, Call call) {
        dueThrow(name, IllegalArgumentException.class, call);
    }

    void dueState(String name, Call call) {
        dueThrow(name, IllegalStateException.class, call);
    }

    void end() {
        System.out.println(title + ": " + checked + " checked, " + wrong + " not as due");
        if (wrong > 0) {
            System.exit(1);
        }
    }

    private void tell(String text) {
        wrong++;
        System.out.println(title + ": " + text);
    }
}
