/** Takes down each answer that is not the one that is due; end() tells how the test went. */
final class Due {
    private int wrong = 0;
    private int asked = 0;
    private String under = "";

    void is(String call, long got, long want) {
        asked++;
        if (got != want) {
            tell(call + " answered " + got + ", due is " + want);
        }
    }

    void is(String call, boolean got, boolean want) {
        asked++;
        if (got != want) {
            tell(call + " answered " + got + ", due is " + want);
        }
    }

    /** The very class counts: one below it would be the machine's own exception. */
    void fails(String call, Class<? extends RuntimeException> want, Runnable act) {
        asked++;
        try {
            act.run();
            tell(call + " threw nothing, due is " + want.getName());
        } catch (RuntimeException thrown) {
            if (thrown.getClass() != want || !isThrownByTheClass(thrown)) {
                tell(call + " threw " + thrown + ", due is " + want.getName());
            }
        }
    }

    /** What stands ahead of each fault from now on. */
    void under(String name) {
        under = name;
    }

    int asked() {
        return asked;
    }

    void tell(String fault) {
        wrong++;
        if (wrong <= 50) {
            System.out.println(under + fault);
        }
    }

    boolean isClean() {
        return wrong == 0;
    }

    void end() {
        System.out.println(asked + " answers, " + wrong + " of them not as due");
        if (wrong != 0 || asked == 0) {
            System.exit(1);
        }
    }

    /** The machine's "/ by zero" is an ArithmeticException too, but not one that is thrown by the class. */
    static boolean isThrownByTheClass(RuntimeException thrown) {
        StackTraceElement[] trace = thrown.getStackTrace();
        return trace.length > 0 && trace[0].getClassName().startsWith("OrderedMaps")
                && !"/ by zero".equals(thrown.getMessage());
    }
}
