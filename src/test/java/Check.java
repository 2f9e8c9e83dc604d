/** Counts the answers that are not as due, and ends a test. */
final class Check {
    private static final int SHOWN = 20;
    private static int wrong = 0;
    private static int asked = 0;

    private Check() {
    }

    static void same(String what, long got, long due) {
        asked++;
        if (got != due) {
            wrong++;
            if (wrong <= SHOWN) {
                System.out.println(what + " answered " + got + ", due is " + due);
            }
        }
    }

    static void holds(String what, boolean truth) {
        same(what, truth ? 1 : 0, 1);
    }

    static int wrongs() {
        return wrong;
    }

    static void end() {
        System.out.println(asked + " answers, " + wrong + " not as due");
        System.exit(wrong == 0 ? 0 : 1);
    }
}
