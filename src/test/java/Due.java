/** What the tests share: answers that are due, told with their promise and its words, and texts that are fed. */
final class Due {
    static final long NO_VALUE = -2000000000000000000L;
    /** The hundredths of an end at its begin: 100 for each of six balls. */
    static final long END = 1000000000000L;

    private static int wrong = 0;
    private static int promise = 0;
    private static String words = "";
    private static int sentences = 0;

    private Due() {
    }

    /** What follows tells of a promise (0: of what stands ahead of all). */
    static void promise(int number) {
        promise = number;
        words = "";
    }

    /** Within a sentence on all calls: which promise the next call is of. */
    static void callOf(int number) {
        promise = number;
    }

    /** One sentence of the document: its words, and a test of its own. */
    static void sentence(String itsWords, Runnable test) {
        words = itsWords;
        sentences++;
        test.run();
    }

    static void due(String what, long got, long want) {
        if (got != want) {
            wrong++;
            String told = words.isEmpty() ? "" : "\"" + words + "\": ";
            System.out.println("promise " + promise + ": " + told + what + " is " + got + ", due is " + want);
        }
    }

    static void yes(String what, boolean got) {
        due(what, got ? 1 : 0, 1);
    }

    static void no(String what, boolean got) {
        due(what, got ? 1 : 0, 0);
    }

    /** Ends the test: with exit code 1 if an answer was wrong. */
    static void end(String whatHolds) {
        String many = sentences > 0 ? sentences + " " : "";
        System.out.println(wrong == 0 ? many + whatHolds : wrong + " answers are wrong");
        if (wrong != 0) {
            System.exit(1);
        }
    }

    /** Puts a text first on the tape, with an a on each place behind it that has to be filled. */
    static void feed(PointOrShoot x, String text) {
        x.check(0);
        for (int i = 0; i < text.length(); i += 20) {
            int[] numbers = new int[5];
            for (int k = 0; k < 20; k++) {
                int sign = i + k < text.length() ? text.charAt(i + k) : 'a';
                numbers[k / 4] = numbers[k / 4] << 8 | sign;
            }
            x.feed(numbers[0], numbers[1], numbers[2], numbers[3], numbers[4]);
        }
    }

    static int law(PointOrShoot x, String text) {
        feed(x, text);
        return x.law(text.length());
    }

    static int rule(PointOrShoot x, int k, String text) {
        feed(x, text);
        return x.rule(k, text.length());
    }

    static int ground(PointOrShoot x, String text) {
        feed(x, text);
        return x.ground(text.length());
    }

    /** A new object with a law. */
    static PointOrShoot by(String law) {
        PointOrShoot x = new PointOrShoot();
        due("law " + law, law(x, law), law.split(";").length);
        return x;
    }

    /** Numbers outside of low to high: next to them, where fewer bytes would bring them back, and the last ones. */
    static int[] outside(int low, int high) {
        return new int[] {low - 1, high + 1, low - 256, high + 256, low - 65536, high + 65536, Integer.MIN_VALUE, Integer.MIN_VALUE + 1,
            Integer.MAX_VALUE - 1, Integer.MAX_VALUE, 1 << 30, -(1 << 30)};
    }
}
