/** Compares answers with what is due, and counts those that differ. */
final class Check {
    private static int checks = 0;
    private static int wrong = 0;

    private Check() {
    }

    static void same(String what, Object answer, Object due) {
        checks++;
        if (!due.equals(answer)) {
            tell(what + " answered " + answer + ", due is " + due);
        }
    }

    static void raises(String what, Class<? extends RuntimeException> due, Runnable call) {
        checks++;
        Object got = "nothing";
        try {
            call.run();
        } catch (RuntimeException e) {
            got = e.getClass();
        }
        if (!due.equals(got)) {
            tell(what + " threw " + got + ", due is " + due);
        }
    }

    /** A call that throws as it should, and leaves the ship as she was. */
    static void refused(String what, SquareRig ship, Class<? extends RuntimeException> due, Runnable call) {
        String before = Voyage.facts(ship);
        raises(what, due, call);
        same("the ship behind " + what, Voyage.facts(ship), before);
    }

    private static void tell(String what) {
        wrong++;
        if (wrong <= 40) {
            System.out.println(what);
        }
    }

    static void end() {
        System.out.println(checks + " checks, " + wrong + " wrong");
        if (wrong != 0) {
            System.exit(1);
        }
    }
}
