/** What the tests share: they count what is not as due, and end with exit code 1 if there was any. */
final class Check {
    static final Class<? extends RuntimeException> BAD_INDEX = IndexOutOfBoundsException.class;
    static final Class<? extends RuntimeException> BAD_ARGUMENT = IllegalArgumentException.class;
    static final Class<? extends RuntimeException> BAD_STATE = IllegalStateException.class;
    static final int NONE = Claimclub.NONE;

    private static int checks = 0;
    private static int failures = 0;
    private static String about = "";

    private Check() {
    }

    /** What the next checks are about: told ahead of each that fails. */
    static void about(String words) {
        about = words.isEmpty() ? "" : words + ": ";
    }

    static int count() {
        return checks;
    }

    static void same(String what, long due, long got) {
        checks++;
        if (due != got) {
            fail(what + " answered " + got + ", due is " + due);
        }
    }

    static void same(String what, boolean due, boolean got) {
        checks++;
        if (due != got) {
            fail(what + " answered " + got + ", due is " + due);
        }
    }

    static void same(String what, String due, String got) {
        checks++;
        if (!due.equals(got)) {
            fail(what + "\n  answered " + got + "\n  due is   " + due);
        }
    }

    /** The call throws exactly that exception, and nothing that can be asked differs afterwards. */
    static void refused(String what, Class<? extends RuntimeException> due, Claimclub state, Runnable call) {
        String before = Seen.of(state);
        RuntimeException thrown = thrownBy(call);
        same(what, due.getName(), thrown == null ? "nothing thrown" : thrown.getClass().getName());
        same(what + " is thrown by the class itself", true, thrown == null || isOwn(thrown));
        same(what + " changes nothing", before, Seen.of(state));
    }

    /** As refused, for a call with one argument that is wrong at each of these numbers. */
    static void refusedAt(String what, Class<? extends RuntimeException> due, Claimclub state,
            java.util.function.IntConsumer call, int... wrong) {
        for (int number : wrong) {
            refused(what + " with " + number, due, state, () -> call.accept(number));
        }
    }

    /** Whether the class threw it, not the library: the machine's own kinds bear other names. */
    static boolean isOwn(RuntimeException thrown) {
        StackTraceElement[] stack = thrown.getStackTrace();
        return stack.length > 0 && stack[0].getClassName().startsWith("Claimclub");
    }

    static RuntimeException thrownBy(Runnable call) {
        try {
            call.run();
            return null;
        } catch (RuntimeException thrown) {
            return thrown;
        }
    }

    static void fail(String what) {
        failures++;
        if (failures <= 40) {
            StackTraceElement[] stack = new Throwable().getStackTrace();
            String where = "";
            for (StackTraceElement frame : stack) {
                if (!frame.getClassName().equals("Check") && where.isEmpty()) {
                    where = frame.toString() + ": ";
                }
            }
            System.out.println(where + about + what);
        }
    }

    static void end(String test) {
        System.out.println(test + ": " + checks + " checks, " + failures + " not as due");
        if (failures > 0) {
            System.exit(1);
        }
    }
}
