/** Counts the answers that are not as due. */
final class Check {
    private static int wrong = 0;
    private static int right = 0;
    private static String place = "";

    private Check() {
    }

    /** What is checked from now on is told with this before it. */
    static void under(String heading) {
        place = heading + ": ";
    }

    static void due(String call, long got, long want) {
        if (got == want) {
            right++;
            return;
        }
        wrong++;
        if (wrong <= 40) {
            System.out.println(place + call + " answered " + got + ", due is " + want);
        }
    }

    static void isTrue(String what, boolean holds) {
        due(what, holds ? 1 : 0, 1);
    }

    static int wrongs() {
        return wrong;
    }

    static void end() {
        System.out.println(right + " answers as due, " + wrong + " not");
        if (wrong != 0 || right == 0) {
            System.exit(1);
        }
    }
}
