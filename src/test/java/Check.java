import java.util.NoSuchElementException;

/** What the tests share: answers held against what is due, and texts laid on the tape. */
final class Check {
    /** What stands for a NoSuchElementException of sale(). */
    static final long THROWN = Long.MIN_VALUE;

    private static int asked = 0;
    private static int wrong = 0;

    private Check() { }

    static void due(String call, long got, long want) {
        asked++;
        if (got == want) return;
        wrong++;
        if (wrong <= 40) System.out.println(call + " answered " + show(got) + ", due is " + show(want));
    }

    static void due(String call, boolean got, boolean want) { due(call, got ? 1L : 0L, want ? 1L : 0L); }

    private static String show(long v) { return v == THROWN ? "throws.NoSuchElementException" : Long.toString(v); }

    static int wrongSoFar() { return wrong; }

    static void finish() {
        System.out.println(wrong == 0 ? asked + " answers are as due" : wrong + " of " + asked + " answers are not as due");
        if (wrong != 0) System.exit(1);
    }

    static long sale(WorthLadder x, int sale, int what) {
        try {
            return x.sale(sale, what);
        } catch (NoSuchElementException e) {
            return THROWN;
        }
    }

    /** The text's bytes as the numbers that feed() takes, blanks behind. */
    static int[] numbers(String text) {
        int[] numbers = new int[(text.length() + 19) / 20 * 5];
        for (int i = 0; i < numbers.length * 4; i++) {
            int sign = i < text.length() ? text.charAt(i) & 255 : ' ';
            numbers[i / 4] = numbers[i / 4] << 8 | sign;
        }
        return numbers;
    }

    static void lay(WorthLadder x, String text) {
        int[] v = numbers(text);
        for (int i = 0; i < v.length; i += 5) x.feed(v[i], v[i + 1], v[i + 2], v[i + 3], v[i + 4]);
    }

    static int tell(WorthLadder x, String text) {
        lay(x, text);
        return x.text(text.length());
    }

    /** A new object with a text that must be told without a fault. */
    static WorthLadder told(String text) {
        WorthLadder x = new WorthLadder();
        int lines = tell(x, text);
        due("text() of '" + text + "'", lines, text.chars().filter(c -> c == ';').count());
        return x;
    }
}
