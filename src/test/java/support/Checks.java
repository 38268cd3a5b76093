/** Counts answers that are not as due; end() closes a test with exit code 1 if there was one. */
final class Checks {
    private int made = 0;
    private int wrong = 0;

    void same(String what, long got, long due) {
        made++;
        if (got != due) {
            wrong++;
            System.out.println(what + " answered " + got + ", due is " + due);
        }
    }

    void yes(String what, boolean got) {
        same(what, got ? 1 : 0, 1);
    }

    void no(String what, boolean got) {
        same(what, got ? 1 : 0, 0);
    }

    void noIndex(String what, Runnable call) {
        thrown(what, call, ArrayIndexOutOfBoundsException.class);
    }

    void noArgument(String what, Runnable call) {
        thrown(what, call, IllegalArgumentException.class);
    }

    private void thrown(String what, Runnable call, Class<?> due) {
        made++;
        Class<?> got = null;
        try {
            call.run();
        } catch (RuntimeException e) {
            got = e.getClass();
            thrownByItself(what, String.valueOf(e.getMessage()));
        }
        if (got != due) {
            wrong++;
            System.out.println(what + " threw " + (got == null ? "nothing" : got.getName()) + ", due is " + due.getName());
        }
    }

    /** The machine's own exceptions tell an index and a length; those of the program do not. */
    private void thrownByItself(String what, String message) {
        if (message.contains("out of bounds")) {
            wrong++;
            System.out.println(what + " was thrown by the machine: " + message);
        }
    }

    void end() {
        System.out.println(made + " answers looked at, " + wrong + " not as due");
        if (wrong > 0 || made == 0) {
            System.exit(1);
        }
    }
}
