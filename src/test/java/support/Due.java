/** Compares answers with those that are due, and ends the test by what it found. */
final class Due {
    private static int asked = 0;
    private static int wrong = 0;
    private static String part = "";

    private Due() {
    }

    static void part(String name) {
        part = name;
    }

    static void is(String call, long got, long want) {
        asked++;
        if (got != want) {
            wrong++;
            System.out.println(part + ": " + call + " answered " + got + ", due is " + want);
        }
    }

    static void end() {
        System.out.println(wrong == 0 ? "all " + asked + " answers are as due"
                : wrong + " of " + asked + " answers are not as due");
        if (wrong != 0 || asked == 0) {
            System.exit(1);
        }
    }
}
