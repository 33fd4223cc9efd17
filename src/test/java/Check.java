import java.util.NoSuchElementException;

/** What the tests share: answers held against what is due, and texts laid on the tape. */
final class Check {
    /** What stands for a NoSuchElementException of sale(). */
    static final long THROWN = Long.MIN_VALUE;

    private static int asked = 0;
    private static int wrong = 0;
    private static String sentence = "";

    private Check() { }

    /** The document's sentence that is tested from here on; it stands ahead of each wrong answer. */
    static void says(String words) { sentence = "[" + words + "] "; }

    static void due(String call, long got, long want) {
        asked++;
        if (got != want) tellWrong(call, show(got), show(want));
    }

    static void due(String call, String got, String want) {
        asked++;
        if (!got.equals(want)) tellWrong(call, got, want);
    }

    private static void tellWrong(String call, String got, String want) {
        wrong++;
        if (wrong <= 40) System.out.println(sentence + call + " answered " + got + ", due is " + want);
    }

    static void due(String call, boolean got, boolean want) { due(call, got ? 1L : 0L, want ? 1L : 0L); }

    private static String show(long v) { return v == THROWN ? "throws.NoSuchElementException" : Long.toString(v); }

    static int wrongSoFar() { return wrong; }

    static void finish() {
        System.out.println(wrong == 0 ? asked + " answers are as due" : wrong + " of " + asked + " answers are not as due");
        if (wrong != 0) System.exit(1);
    }

    static long sale(WorthLadder x, int sale, int what) {
        try {
            return x.sale(sale, what);
        } catch (NoSuchElementException e) {
            return THROWN;
        }
    }

    /** Its report, byte by byte. */
    static String report(WorthLadder x) {
        StringBuilder text = new StringBuilder();
        for (int i = 0; i < x.report(-1); i++) text.append((char) x.report(i));
        return text.toString();
    }

    /** All that can be seen; two are alike only if nothing has changed in between. */
    static String shot(WorthLadder x) { return x.count(11) + " ACTS, " + x.count(12) + " bytes, " + state(x); }

    /** All that is told and rests on it, without THE TAPE and how many ACTS can be taken back. */
    static String state(WorthLadder x) {
        StringBuilder t = new StringBuilder();
        for (int what = 0; what <= 13; what++) if (what != 11 && what != 12) t.append(x.count(what)).append(' ');
        for (int a = 0; a < x.count(0); a++) for (int b = 0; b < a; b++) t.append(x.kin(a, b)).append(' ');
        for (int a = 0; a < x.count(1); a++) for (int b = 0; b < a; b++) t.append(x.like(a, b)).append(' ');
        for (int i = 0; i < x.count(2); i++) t.append(x.assist(i, 0)).append(' ').append(x.assist(i, 1)).append(' ');
        for (int i = 0; i < x.count(5); i++) t.append(x.band(i, 0)).append(' ').append(x.band(i, 1)).append(' ');
        for (int i = 0; i < x.count(4); i++) for (int k = 0; k <= 3; k++) t.append(x.resold(i, k)).append(' ');
        for (int i = 0; i < x.count(3); i++) {
            for (int k = 0; k <= 12; k++) t.append(sale(x, i, k)).append(' ');
            t.append(x.own(i)).append(' ').append(x.by(i, 5)).append(' ');
        }
        return t.append(x.dues()).append(' ').append(x.report(-1)).append(report(x)).toString();
    }

    /** The text's bytes as the numbers that feed() takes, blanks behind. */
    static int[] numbers(String text) {
        int[] numbers = new int[(text.length() + 19) / 20 * 5];
        for (int i = 0; i < numbers.length * 4; i++) {
            int sign = i < text.length() ? text.charAt(i) & 255 : ' ';
            numbers[i / 4] = numbers[i / 4] << 8 | sign;
        }
        return numbers;
    }

    static void lay(WorthLadder x, String text) {
        int[] v = numbers(text);
        for (int i = 0; i < v.length; i += 5) x.feed(v[i], v[i + 1], v[i + 2], v[i + 3], v[i + 4]);
    }

    static int tell(WorthLadder x, String text) {
        lay(x, text);
        return x.text(text.length());
    }

    /** What text() answers for a FAULT. */
    static int fault(int place, int kind) { return -2 - (8 * place + kind); }

    /** A new object with a text that must be told without a fault. */
    static WorthLadder told(String text) {
        WorthLadder x = new WorthLadder();
        int lines = tell(x, text);
        due("text() of '" + text + "'", lines, text.chars().filter(c -> c == ';').count());
        return x;
    }
}
