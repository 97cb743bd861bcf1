/** Counts what is as due and tells what is not. */
final class Check {
    private static int passed = 0;
    private static int failed = 0;

    private Check() { }

    static void due(String what, Object got, Object want) {
        if (got.equals(want)) {
            passed++;
        } else {
            failed++;
            System.out.println(what + " answered " + got + ", due is " + want);
        }
    }

    /** The very class is due: the machine throws classes below it, or an ArithmeticException of its own text. */
    static void thrown(String what, Class<? extends RuntimeException> want, Runnable call) {
        String got = "nothing";
        try {
            call.run();
        } catch (RuntimeException e) {
            got = e.getClass().getName() + ("/ by zero".equals(e.getMessage()) ? " of a division" : "");
        }
        due(what + " throws", got, want.getName());
    }

    static void finish() {
        System.out.println(passed + " passed, " + failed + " failed");
        if (failed > 0) {
            System.exit(1);
        }
    }
}
