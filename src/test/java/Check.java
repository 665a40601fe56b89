/** Counts answers that are not as due, tells each, and ends the test with exit code 1 if there was one. */
final class Check {
    private static int done = 0;
    private static int wrong = 0;

    private Check() {
    }

    static void same(String what, long got, long due) {
        count(got == due, what, String.valueOf(got), String.valueOf(due));
    }

    static void same(String what, boolean got, boolean due) {
        count(got == due, what, String.valueOf(got), String.valueOf(due));
    }

    static void same(String what, String got, String due) {
        count(got.equals(due), what, got, due);
    }

    private static void count(boolean isSame, String what, String got, String due) {
        done++;
        if (isSame) {
            return;
        }
        wrong++;
        if (wrong <= 40) {
            System.out.println(what + " answered " + got + ", due is " + due);
        }
    }

    static void end() {
        System.out.println(done + " answers, " + wrong + " not as due");
        if (wrong != 0) {
            System.exit(1);
        }
    }
}
