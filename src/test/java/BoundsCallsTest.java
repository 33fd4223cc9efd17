import java.util.ArrayDeque;
import java.util.Deque;
import java.util.function.IntUnaryOperator;
import java.util.function.IntBinaryOperator;

/**
 * The bounds of each call, sentence by sentence: promise 1, promises 4 to 38, part 3 of 'Terms' and the 512 calls. Each
 * is asked on a new object, on one in which there are few of each sort, and on one in which there are as many as may be.
 */
public final class BoundsCallsTest {
    private static final int LOW = Integer.MIN_VALUE;
    private static final int HIGH = Integer.MAX_VALUE;
    /** What is below every number, and what is above every bound. */
    private static final int[] BELOW = {-1, -2, -3, -100, LOW + 1, LOW};
    private static final int[] ABOVE = {16, 31, 32, 33, 64, 100, 10000, 65536, HIGH - 1, HIGH};

    /** As many of each sort as there may be but resold rows, for which the TEXT has no room. */
    private static final String FULL = "party a;party b;party c;party d;party e;party f;kin a b;kin b c;kin a c;kin d e;kin d f;kin e f;"
        + "good g group1land1;good h group1land1;good i group1land2;good j group2land1;good k group0land0;good l group9land9;"
        + "assist m worth5first;assist n worth6by7;assist o worth9999by9999;assist p worth1first;"
        + "band from2less1;band from3less2;band from4less3;band from9999less90;"
        + "sale q g a d pieces1price1day1;sale r g a d pieces1price1day1;sale s g a d pieces1price1day1;sale t g a d pieces1price1day1;sale u g a d pieces1price1day1;"
        + "sale v g a d pieces1price1day1;sale w g a d pieces1price1day1;sale x g a d pieces1price1day1;sale y g a d pieces1price1day1;"
        + "sale z l f c pieces9999price9999day999bound royalty99fee9999packing9999freight9999uses m uses n uses o uses p;";

    /** Few of each sort, with something of everything. */
    private static final String FEW = "party pa;party pb;party pc;kin pa pb;good ga group 1 land 1;good gb group 1 land 1;assist mo worth 100 by 10;assist de worth 9 first;"
        + "band from 5 less 10;band from 50 less 20;made gb cost 3 profit 4;sale sa ga pa pc pieces 10 price 100 day 5 uses mo;"
        + "sale sb gb pa pb pieces 10 price 200 day 5 bound uses mo uses de;resold ga pieces 1 price 2 day 3;";

    private static WorthLadder x;

    public static void main(String[] args) {
        newObject();
        counts();
        numbersThatAreNone();
        sales();
        rows();
        pairs();
        bandsAndAssists();
        shares();
        bys();
        worths();
        whysAndTests();
        prices();
        needs();
        rests();
        all();
        report();
        refusedActs();
        priceBounds();
        bindBounds();
        relateBounds();
        ruleBounds();
        turns();
        resellBounds();
        spreadBounds();
        lessenBounds();
        twelveActs();
        wrapAround();
        undoes();
        keeps();
        keepsHoldAll();
        keepsAndText();
        calls512();
        Check.finish();
    }

    private static void due(String call, long got, long want) { Check.due(call, got, want); }

    private static void due(String call, boolean got, boolean want) { Check.due(call, got, want); }

    private static void told(String text) { x = Check.told(text); }

    private static WorthLadder full() {
        WorthLadder w = Check.told(FULL);
        for (int i = 0; i < 12; i++) w.resell(i % 6, 1 + i, 9999 - i, 988 + i);
        return w;
    }

    /** That a call answers the same for all that is no number of such a thing. */
    private static void none(String call, int size, long want, IntUnaryOperator ask) {
        for (int v : BELOW) due(call + " of " + v, ask.applyAsInt(v), want);
        due(call + " of " + size + ", just too high", ask.applyAsInt(size), want);
        due(call + " of " + (size + 1), ask.applyAsInt(size + 1), want);
        for (int v : ABOVE) if (v > size) due(call + " of " + v, ask.applyAsInt(v), want);
    }

    // ---- 1, 4

    private static void newObject() {
        Check.says("1: Nothing is told; rules as without");
        x = new WorthLadder();
        int[] want = {0, 0, 0, 0, 0, 0, 5, 30, 20, 10, 0, 0, 0, 0};
        for (int what = 0; what < 14; what++) due("count(" + what + ")", x.count(what), want[what]);
        due("dues()", x.dues(), 0);
        for (int m = 0; m <= 6; m++) due("all(" + m + ")", x.all(m), 0);
        due("report(-1)", x.report(-1), 0);
        due("report(0)", x.report(0), -2);
        due("undo()", x.undo(), -1);
        due("keep(0, back)", x.keep(0, true), false);
        due("keep(1, back)", x.keep(1, true), false);
        due("resell(0, 1, 1, 1)", x.resell(0, 1, 1, 1), -1);
        due("relate(0, 0)", x.relate(0, 0, true), false);
        due("relate(0, 1)", x.relate(0, 1, true), false);
        due("bind(0, true)", x.bind(0, true), false);
        due("price(0, 1)", x.price(0, 1), -1);
        due("spread(0, 1)", x.spread(0, 1), -1);
        due("lessen(0, 1)", x.lessen(0, 1), -1);
        due("no ACT", x.count(11), 0);
        due("keep(0): nothing can be laid too", x.keep(0, false), true);
        due("turn()", x.turn(), 1);
        due("rule(1, 31)", x.rule(1, 31), 30);
        due("keep(0, back)", x.keep(0, true), true);
        for (int what = 0; what < 14; what++) due("gone back: count(" + what + ")", x.count(what), want[what]);
    }

    private static void counts() {
        Check.says("4: count: NONE for another what");
        for (WorthLadder w : new WorthLadder[] {new WorthLadder(), Check.told(FEW), full()}) {
            none("count", 14, -1, w::count);
        }
        x = full();
        int[] want = {6, 6, 4, 10, 12, 4, 5, 30, 20, 10, 0, 12, 0, 6};
        for (int what = 0; what < 14; what++) due("full: count(" + what + ")", x.count(what), want[what]);
    }

    // ---- none such

    private static int ask(WorthLadder w, String call, int v) {
        switch (call) {
            case "own": return (int) w.own(v);
            case "by": return (int) w.by(v, 1);
            case "base": return w.base(v, 2);
            case "worth": return (int) w.worth(v);
            case "method": return w.method(v);
            case "why": return w.why(v, -1);
            case "why 0": return w.why(v, 0);
            case "test": return (int) w.test(v, -1);
            case "test 0": return (int) w.test(v, 0);
            case "passes": return w.passes(v);
            case "prices": return w.prices(v, 0);
            case "prices 1": return w.prices(v, 1);
            case "prices 2": return w.prices(v, 2);
            case "needs": return w.needs(v);
            case "rests": return w.rests(v);
            case "turned": return (int) w.turned(v);
            case "due": return (int) w.due(v);
            case "share": return w.share(0, v);
            case "price": return w.price(v, 7777);
            case "bind": return w.bind(v, true) || w.bind(v, false) ? 1 : 0;
            case "rest": return w.rest(v);
            case "share of": return w.share(v, 0);
            case "assist": return w.assist(v, 0);
            case "spread": return w.spread(v, 7777);
            case "band": return w.band(v, 0);
            case "lessen": return w.lessen(v, 77);
            case "resold": return w.resold(v, 0);
            case "resell": return w.resell(v, 1, 1, 1);
            case "kin": return w.kin(v, 0);
            case "kin with": return w.kin(0, v);
            case "kin itself": return w.kin(v, v);
            case "relate": return w.relate(v, 0, true) || w.relate(v, 0, false) ? 1 : 0;
            case "relate to": return w.relate(0, v, true) || w.relate(0, v, false) ? 1 : 0;
            case "like": return w.like(v, 0);
            case "like with": return w.like(0, v);
            default: return w.like(v, v);
        }
    }

    private static void none(WorthLadder w, int size, long want, String... calls) {
        for (String call : calls) {
            Check.says(call + ": none such");
            none(call, size, want, v -> ask(w, call, v));
        }
    }

    private static void numbersThatAreNone() {
        for (WorthLadder w : new WorthLadder[] {new WorthLadder(), Check.told(FEW), full()}) {
            int acts = w.count(11);
            none(w, w.count(3), -1, "own", "by", "base", "worth", "method", "why", "why 0", "test", "test 0", "passes", "needs", "rests", "turned", "due", "share", "price");
            none(w, w.count(3), -2, "prices", "prices 1", "prices 2");
            none(w, w.count(3), 0, "bind");
            none(w, w.count(2), -1, "rest", "share of", "assist", "spread");
            none(w, w.count(5), -1, "band", "lessen");
            none(w, w.count(4), -1, "resold");
            none(w, w.count(0), -1, "kin", "kin with", "kin itself");
            none(w, w.count(0), 0, "relate", "relate to");
            none(w, w.count(1), -1, "like", "like with", "like itself", "resell");
            due("none of these is an ACT", w.count(11), acts);
        }
        // share() wants both, relate() too.
        x = full();
        Check.says("11: share: NONE: none such");
        due("share(4, 10)", x.share(4, 10), -1);
        due("share(3, 9): the last of both", x.share(3, 9), 1);
        due("share(4, 9)", x.share(4, 9), -1);
        due("share(3, 10)", x.share(3, 10), -1);
    }

    // ---- 5 to 13

    private static void sales() {
        Check.says("5: sale: NoSuchElementException: others, none such");
        x = full();
        for (int what = 0; what <= 12; what++) {
            due("sale(0, " + what + ") is one", Check.sale(x, 0, what) == Check.THROWN, false);
            due("sale(10, " + what + ")", Check.sale(x, 10, what), Check.THROWN);
            due("sale(-1, " + what + ")", Check.sale(x, -1, what), Check.THROWN);
        }
        int[] last = {5, 5, 2, 9999, 9999, 999, 1, 99, 9999, 9999, 9999, 15, 4};
        for (int what = 0; what <= 12; what++) due("sale(9, " + what + ")", Check.sale(x, 9, what), last[what]);
        int[] first = {0, 0, 3, 1, 1, 1, 0, 0, 0, 0, 0, 0, 0};
        for (int what = 0; what <= 12; what++) due("sale(8, " + what + ")", Check.sale(x, 8, what), first[what]);
        for (int v : BELOW) due("sale(0, " + v + ")", Check.sale(x, 0, v), Check.THROWN);
        for (int v : BELOW) due("sale(" + v + ", 0)", Check.sale(x, v, 0), Check.THROWN);
        for (int v : ABOVE) due("sale(0, " + v + ")", Check.sale(x, 0, v), Check.THROWN);
        for (int v : ABOVE) due("sale(" + v + ", 0)", Check.sale(x, v, 0), Check.THROWN);
        due("sale(0, 13)", Check.sale(x, 0, 13), Check.THROWN);
        due("sale(9, 13)", Check.sale(x, 9, 13), Check.THROWN);
        due("sale(10, 13)", Check.sale(x, 10, 13), Check.THROWN);
        told(FEW);
        due("few: sale(1, 12)", Check.sale(x, 1, 12), 1);
        due("few: sale(2, 12)", Check.sale(x, 2, 12), Check.THROWN);
        due("few: sale(2, 0)", Check.sale(x, 2, 0), Check.THROWN);
        x = new WorthLadder();
        due("new: sale(0, 0)", Check.sale(x, 0, 0), Check.THROWN);
        due("new: sale(0, 12)", Check.sale(x, 0, 12), Check.THROWN);
    }

    private static void whats(String call, int size, IntBinaryOperator ask, int[][] want) {
        for (int i = 0; i < want.length; i++) {
            for (int k = 0; k < want[i].length; k++) due(call + "(" + i + ", " + k + ")", ask.applyAsInt(i, k), want[i][k]);
        }
        int whats = want[0].length;
        none(call + "(0, what)", whats, -1, v -> ask.applyAsInt(0, v));
        none(call + "(the last, what)", whats, -1, v -> ask.applyAsInt(size - 1, v));
        due(call + "(none, none)", ask.applyAsInt(size, whats), -1);
    }

    private static void rows() {
        Check.says("6: resold: NONE: others, none such");
        x = full();
        int[][] want = new int[12][];
        for (int i = 0; i < 12; i++) want[i] = new int[] {i % 6, 1 + i, 9999 - i, 988 + i};
        whats("resold", 12, x::resold, want);
        due("undo: the last row goes", x.undo(), 11);
        due("resold(11, 0)", x.resold(11, 0), -1);
        due("resold(10, 0)", x.resold(10, 0), 4);
    }

    private static void pairs() {
        Check.says("7: kin: 1 two PARTIES are KIN (one and itself, too), 0 not; NONE: none such");
        x = full();
        for (int a = 0; a < 6; a++) for (int b = 0; b < 6; b++) due("kin(" + a + ", " + b + ")", x.kin(a, b), a / 3 == b / 3 ? 1 : 0);
        due("kin(5, 6)", x.kin(5, 6), -1);
        due("kin(6, 5)", x.kin(6, 5), -1);
        due("kin(6, 6)", x.kin(6, 6), -1);
        told("party a;");
        due("one PARTY: kin(0, 0)", x.kin(0, 0), 1);
        due("one PARTY: kin(0, 1)", x.kin(0, 1), -1);
        due("one PARTY: kin(1, 1)", x.kin(1, 1), -1);

        Check.says("8: like: 1 two GOODS are one, 2 SIMILAR, 0 neither; NONE: none such");
        x = full();
        for (int a = 0; a < 6; a++) for (int b = 0; b < 6; b++) due("like(" + a + ", " + b + ")", x.like(a, b), a == b ? 1 : a + b == 1 ? 2 : 0);
        due("like(5, 6)", x.like(5, 6), -1);
        due("like(6, 5)", x.like(6, 5), -1);
        due("like(6, 6)", x.like(6, 6), -1);
    }

    private static void bandsAndAssists() {
        Check.says("9: band: NONE: others, none such");
        x = full();
        whats("band", 4, x::band, new int[][] {{2, 1}, {3, 2}, {4, 3}, {9999, 90}});
        Check.says("10: assist: 1: by how many PIECES it goes (0: first); NONE: others, none such");
        whats("assist", 4, x::assist, new int[][] {{5, 0}, {6, 7}, {9999, 9999}, {1, 0}});
    }

    private static void shares() {
        Check.says("11: share: SHARE of an ASSIST in a SALE (0 if it doesn't use it)");
        x = full();
        int[] last = {5, 6, 9999, 1};
        for (int a = 0; a < 4; a++) {
            for (int s = 0; s < 9; s++) due("share(" + a + ", " + s + ")", x.share(a, s), 0);
            due("share(" + a + ", 9)", x.share(a, 9), last[a]);
        }
        Check.says("12: rest: What is left of an ASSIST's worth behind all SHARES");
        for (int a = 0; a < 4; a++) due("nothing is left: rest(" + a + ")", x.rest(a), 0);
        told(FEW);
        due("all is used: rest(0)", x.rest(0), 0);
        x.spread(0, 30);
        due("33, 33 of 100: rest(0)", x.rest(0), 34);
        x.spread(0, 9999);
        due("no SHARE is as great as 1: rest(0)", x.rest(0), 100);
        told("assist mo worth 9999 first;assist de worth 9999 by 1;");
        due("no SALES: rest(0)", x.rest(0), 9999);
        due("no SALES: rest(1)", x.rest(1), 9999);
        due("no SALES: share(0, 0)", x.share(0, 0), -1);
        Check.says("13: own: OWN; NONE: none such");
        x = full();
        due("own(0)", x.own(0), 1);
        due("own(9)", x.own(9), 9999L * 9999 + 9999L * 9999 * 99 / 100 + 3 * 9999 + 5 + 6 + 9999 + 1);
        due("own(10)", x.own(10), -1);
    }

    // ---- 14 to 28

    private static void bys() {
        Check.says("14: by: one METHOD (1 to 6); NONE: none such");
        x = full();
        for (int s : new int[] {0, 9}) {
            int sale = s;
            for (int v : BELOW) due("by(" + sale + ", " + v + ")", x.by(sale, v), -1);
            due("by(" + sale + ", 0)", x.by(sale, 0), -1);
            none("by(" + sale + ", method)", 7, -1, v -> (int) x.by(sale, v));
        }
        for (int m = 1; m <= 6; m++) due("by(10, " + m + ")", x.by(10, m), -1);
        long[] first = {1, 1, -2 - 31, -2 - 41, -2 - 51, 1};
        for (int m = 1; m <= 6; m++) due("by(0, " + m + ")", x.by(0, m), first[m - 1]);
        int[] whys = {11, 21, 31, 41, 51, 61};
        Check.says("14: by: -2 less why: it fails");
        for (int m : new int[] {1, 2, 3, 5, 6}) due("by(9, " + m + ")", x.by(9, m), -2 - whys[m - 1]);
        due("by(9, 4): by the last row alone", x.by(9, 4), 9999L * 9988 * 80 / 110);

        Check.says("15: base: -2 less why: it fails; NONE: none such, another METHOD");
        for (int m : new int[] {LOW, -2, -1, 0, 1, 5, 7, 8, HIGH}) {
            due("base(0, " + m + ")", x.base(0, m), -1);
            due("base(9, " + m + ")", x.base(9, m), -1);
            due("base(10, " + m + ")", x.base(10, m), -1);
        }
        for (int m : new int[] {2, 3, 4, 6}) due("base(10, " + m + ")", x.base(10, m), -1);
        for (int m : new int[] {2, 3, 6}) due("base(9, " + m + ")", x.base(9, m), -2 - whys[m - 1]);
        due("base(0, 2)", x.base(0, 2), 1);
        due("base(1, 2)", x.base(1, 2), 0);
        due("base(0, 3)", x.base(0, 3), -2 - 31);
        due("base(0, 4)", x.base(0, 4), -2 - 41);
        due("base(9, 4)", x.base(9, 4), 9988);
        due("base(0, 6)", x.base(0, 6), 1);
    }

    private static void worths() {
        Check.says("16, 17, 24, 25: -2: all fail; NONE: none such");
        told("party pa;party pb;party pc;kin pa pb;good ga group 1 land 1;sale sa ga pa pb pieces 1 price 9 day 5;sale sb ga pa pc pieces 1 price 1 day 5 bound;");
        for (int s = 0; s < 2; s++) {
            due("worth(" + s + ")", x.worth(s), -2);
            due("method(" + s + ")", x.method(s), -2);
            due("turned(" + s + ")", x.turned(s), -2);
            due("due(" + s + ")", x.due(s), -2);
            due("why(" + s + ", -1)", x.why(s, -1), 6);
        }
        due("all(0)", x.all(0), 3);
        Check.says("26: dues: DUE of all SALES with a WORTH together");
        due("all fail: dues()", x.dues(), 0);
        x.bind(1, false);
        x.price(1, 9);
        x.rule(3, 99);
        due("both have one: dues()", x.dues(), 8 + 8);
        due("worth(2)", x.worth(2), -1);
        due("due(2)", x.due(2), -1);
        told("party pa;party pb;good ga group 1 land 1;duty 99;sale sa ga pa pb pieces 9999 price 9999 day 5 royalty 99;sale sb ga pa pb pieces 9999 price 9999 day 5 royalty 99;"
            + "sale sc ga pa pb pieces 9999 price 9999 day 5 royalty 99;sale sd ga pa pb pieces 9999 price 9999 day 5 royalty 99;sale se ga pa pb pieces 9999 price 9999 day 5 royalty 99;"
            + "sale sf ga pa pb pieces 9999 price 9999 day 5 royalty 99;sale sg ga pa pb pieces 9999 price 9999 day 5 royalty 99;sale sh ga pa pb pieces 9999 price 9999 day 5 royalty 99;"
            + "sale si ga pa pb pieces 9999 price 9999 day 5 royalty 99;sale sj ga pa pb pieces 9999 price 9999 day 5 royalty 99;");
        long own = 9999L * 9999 + 9999L * 9999 * 99 / 100;
        due("ten of the greatest: dues()", x.dues(), own * 99 / 100 * 10);
        told("party pa;party pb;good ga group 1 land 1;duty 99;band from 2 less 90;band from 3 less 0;sale sa ga pa pb pieces 9999 price 1 day 5 bound;"
            + "sale sb ga pa pb pieces 2 price 9999 day 5 royalty 99 fee 9999 packing 9999 freight 9999;");
        due("beyond 32 bits: worth(0)", x.worth(0), 3489301035L);
        due("beyond 32 bits: due(0)", x.due(0), 3489301035L * 99 / 100);
        due("beyond 32 bits: turned(0)", x.turned(0), 3489301035L);
        due("beyond 32 bits: by(0, 2)", x.by(0, 2), 3489301035L);
        due("beyond 32 bits: dues()", x.dues(), 3489301035L * 99 / 100 + 69793 * 99 / 100);
    }

    private static void whysAndTests() {
        Check.says("18: why: how many failed (k NONE); -2: not so many; NONE: no such SALE, k below that");
        told("party pa;party pb;party pc;good ga group 1 land 1;sale sa ga pa pb pieces 1 price 9 day 5;sale sb ga pa pc pieces 1 price 1 day 5 bound;");
        due("none failed: why(0, -1)", x.why(0, -1), 0);
        due("none failed: why(0, 0)", x.why(0, 0), -2);
        due("one failed: why(1, -1)", x.why(1, -1), 1);
        due("one failed: why(1, 0)", x.why(1, 0), 11);
        due("one failed: why(1, 1)", x.why(1, 1), -2);
        x.bind(0, true);
        due("all failed: why(1, -1)", x.why(1, -1), 6);
        due("all failed: why(1, 5)", x.why(1, 5), 61);
        due("all failed: why(1, 6)", x.why(1, 6), -2);
        for (int v : ABOVE) due("why(1, " + v + ")", x.why(1, v), -2);
        for (int v : BELOW) if (v < -1) due("why(1, " + v + ")", x.why(1, v), -1);
        for (int v : new int[] {-2, -1, 0, 6, HIGH}) due("why(2, " + v + ")", x.why(2, v), -1);

        Check.says("19: test: how many (k NONE); -2: not so many; NONE likewise");
        due("no TEST: test(0, -1)", x.test(0, -1), 0);
        due("no TEST: test(0, 0)", x.test(0, 0), -2);
        x.bind(0, false);
        due("one TEST: test(1, -1)", x.test(1, -1), 1);
        due("one TEST: test(1, 0)", x.test(1, 0), 9);
        due("one TEST: test(1, 1)", x.test(1, 1), -2);
        for (int v : ABOVE) due("test(1, " + v + ")", x.test(1, v), -2);
        for (int v : BELOW) if (v < -1) due("test(1, " + v + ")", x.test(1, v), -1);
        for (int v : new int[] {-2, -1, 0, 6, HIGH}) due("test(2, " + v + ")", x.test(2, v), -1);
        x = Check.told(FULL + "made g cost 7 profit 0;");
        x.resell(0, 1, 11, 1);
        due("as many as there may be: test(0, -1)", x.test(0, -1), 10);
        due("the last but one: test(0, 8)", x.test(0, 8), 8);
        due("the last: test(0, 9)", x.test(0, 9), 7);
        due("one too many: test(0, 10)", x.test(0, 10), -2);

        StringBuilder ten = new StringBuilder("party a;party b;good g group1land1;made g cost 7 profit 0;");
        for (char c = 'q'; c <= 'z'; c++) ten.append("sale ").append(c).append(" g a b pieces1price").append(10 + c - 'q').append("day1;");
        told(ten + "resold g pieces1price11day1;near 0;");
        for (int s = 0; s < 10; s++) {
            due("all SALES and both METHODS: test(" + s + ", -1)", x.test(s, -1), 11);
            due("the first: test(" + s + ", 0)", x.test(s, 0), s == 0 ? 11 : 10);
            due("the last SALE's: test(" + s + ", 8)", x.test(s, 8), s == 9 ? 18 : 19);
            due("METHOD 4's: test(" + s + ", 9)", x.test(s, 9), 8);
            due("METHOD 5's: test(" + s + ", 10)", x.test(s, 10), 7);
            due("no more: test(" + s + ", 11)", x.test(s, 11), -2);
        }
        x.price(4, 7);
        due("the last TEST is near: passes", x.passes(4), 1);
        due("the last TEST is near: needs", x.needs(4), 0);
        due("eleven PRICES", x.prices(4, 0), 11);
        due("the least", x.prices(4, 1), 7);
        due("the greatest", x.prices(4, 2), 19);

        Check.says("20: passes: 1 it PASSES, 0 not; NONE: none such");
        told("party pa;party pb;party pc;good ga group 1 land 1;sale sa ga pa pb pieces 1 price 9 day 5;sale sb ga pa pc pieces 1 price 9 day 5;sale sc ga pa pc pieces 1 price 1 day 999;");
        due("near: passes(0)", x.passes(0), 1);
        due("no TEST: passes(2)", x.passes(2), 0);
        due("passes(3)", x.passes(3), -1);
    }

    private static void prices(String when, int sale, int count, int least, int greatest) {
        due(when + ": how many", x.prices(sale, 0), count);
        due(when + ": the least", x.prices(sale, 1), least);
        due(when + ": the greatest", x.prices(sale, 2), greatest);
    }

    private static void prices() {
        Check.says("21: prices: PRICES (1 to 9999) with which a SALE PASSES (2; NONE both: none)");
        String head = "party pa;party pb;party pc;party pd;kin pa pb;good ga group 1 land 1;";
        String one = "sale sa ga pa pb pieces 1 price 5 day 5%s;sale sb ga pc pd pieces 1 price %d day 5%s;near %d;";
        told(head + String.format(one, "", 1, "", 0));
        prices("only the least PRICE", 0, 1, 1, 1);
        told(head + String.format(one, "", 9999, "", 0));
        prices("only the greatest PRICE", 0, 1, 9999, 9999);
        told(head + String.format(one, "", 9999, " fee 1", 0));
        prices("just above the greatest", 0, 0, -1, -1);
        told(head + String.format(one, " fee 1", 1, "", 0));
        prices("just below the least", 0, 0, -1, -1);
        told(head + String.format(one, " fee 1", 1, " fee 1", 0));
        prices("the least, both with a fee", 0, 1, 1, 1);
        told(head + String.format(one, "", 2, "", 50));
        prices("1 to 3", 0, 3, 1, 3);
        told(head + String.format(one, "", 9999, "", 50));
        prices("5000 to 9999", 0, 5000, 5000, 9999);
        told(head + "sale sa ga pa pb pieces 9999 price 5 day 5 royalty 99;sale sb ga pc pd pieces 9999 price 9999 day 5 royalty 99;sale sc ga pc pd pieces 9999 price 1 day 5 royalty 99;near 0;");
        prices("the greatest PIECES, the ends alone", 0, 2, 1, 9999);
        Check.says("21: prices: spans that touch, overlap, lie apart, lie in one another");
        String two = head + "sale sa ga pa pb pieces 1 price 5 day 5;sale sb ga pc pd pieces 1 price %d day 5;sale sc ga pc pd pieces 1 price %d day 5;near %d;";
        // The two TESTS, near; how many, the least, the greatest.
        int[][] cases = {{100, 101, 0, 2, 100, 101}, {101, 100, 0, 2, 100, 101}, {100, 102, 0, 2, 100, 102}, {100, 100, 0, 1, 100, 100},
            {100, 110, 5, 21, 95, 115}, {100, 112, 5, 22, 95, 117}, {100, 111, 5, 22, 95, 116}, {112, 100, 5, 22, 95, 117}, {10, 9, 50, 11, 5, 15}, {9, 10, 50, 11, 5, 15},
            {2, 9999, 50, 3 + 5000, 1, 9999}, {1, 2, 50, 3, 1, 3}};
        for (int[] c : cases) {
            told(String.format(two, c[0], c[1], c[2]));
            prices("TESTS " + c[0] + ", " + c[1] + ", near " + c[2], 0, c[3], c[4], c[5]);
        }
        Check.says("21: prices: whatever its own PRICE is, and what is asked changes nothing");
        told(String.format(two, 100, 110, 5));
        for (int price : new int[] {1, 94, 95, 115, 116, 9999}) {
            x.price(0, price);
            String was = Check.shot(x);
            prices("PRICE " + price, 0, 21, 95, 115);
            due("PRICE " + price + " passes", x.passes(0), price >= 95 && price <= 115 ? 1 : 0);
            Check.due("nothing changes", Check.shot(x), was);
        }
        Check.says("21: prices: -2: no such SALE, another what");
        for (int v : new int[] {LOW, -2, -1, 3, 4, HIGH}) due("prices(0, " + v + ")", x.prices(0, v), -2);
        for (int v : new int[] {LOW, -2, -1, 3, 4, HIGH}) for (int k = -1; k <= 3; k++) due("prices(" + v + ", " + k + ")", x.prices(v, k), -2);
        due("prices(2, 0): the last SALE", x.prices(2, 0), 11);
    }

    private static void needs() {
        Check.says("22: needs: The least near (0 to 50) by which a SALE would PASS; -2: by none");
        String form = "party pa;party pb;party pc;party pd;kin pa pb;good ga group 1 land 1;sale sa ga pa pb pieces 1 price %d day 5;sale sb ga pc pd pieces 1 price %d day 5;near %d;";
        // OWN, the TEST, what is due; near as told doesn't matter.
        int[][] cases = {{100, 100, 0}, {101, 100, 1}, {99, 100, 1}, {150, 100, 50}, {50, 100, 50}, {151, 100, -2}, {49, 100, -2}, {100, 101, 1}, {100, 99, 2},
            {1, 2, 50}, {3, 2, 50}, {4, 2, -2}, {2, 1, -2}, {1, 1, 0}, {9999, 6666, 50}, {9999, 6665, -2}, {5000, 9999, 50}, {4999, 9999, -2}, {201, 200, 1}, {202, 200, 1}, {203, 200, 2}};
        for (int[] c : cases) {
            for (int near : new int[] {0, 5, 50}) {
                told(String.format(form, c[0], c[1], near));
                String when = "OWN " + c[0] + ", TEST " + c[1] + ", near " + near;
                due(when, x.needs(0), c[2]);
                if (near > 0) continue;
                // By that near it does pass, by one less it doesn't.
                if (c[2] > 0) x.rule(0, c[2]);
                if (c[2] >= 0) due(when + ": passes by it", x.passes(0), 1);
                if (c[2] > 0) x.rule(0, c[2] - 1);
                if (c[2] > 0) due(when + ": doesn't by less", x.passes(0), 0);
                if (c[2] < 0) x.rule(0, 50);
                if (c[2] < 0) due(when + ": doesn't by the most", x.passes(0), 0);
            }
        }
        told("party pa;party pb;good ga group 1 land 1;sale sa ga pa pb pieces 1 price 5 day 5;");
        due("no TEST", x.needs(0), -2);
        due("needs(1)", x.needs(1), -1);
    }

    private static void rests() {
        Check.says("23: rests: those without each of which (its SHARES going to others) WORTH of the SALE, or that it has one, would be another");
        told("party pa;party pb;good ga group 1 land 1;sale sa ga pa pb pieces 1 price 5 day 5;");
        due("the only SALE", x.rests(0), 0);
        x = full();
        for (int s = 0; s < 10; s++) due("full: rests(" + s + ")", x.rests(s), 0);
        due("full: rests(10)", x.rests(10), -1);
        String head = "party pa;party pb;party pc;party pd;kin pa pb;good ga group 1 land 1;assist mo worth 90 first;";
        // sb has the worth of mo; without it that is sa's.
        told(head + "sale sa ga pc pd pieces 1 price 10 day 6 uses mo;sale sb ga pc pd pieces 1 price 10 day 5 uses mo;");
        due("its SHARES go to others", x.rests(0), 2);
        due("the first has them anyway", x.rests(1), 0);
        // Of 10 sales the first and the last one's worth rests on the other alone.
        StringBuilder ten = new StringBuilder("party a;party b;good g group1land1;");
        ten.append("sale q g a b pieces1price9day1bound;");
        for (char c = 'r'; c <= 'y'; c++) ten.append("sale ").append(c).append(" g a b pieces1price1day1bound;");
        told(ten + "sale z g a b pieces1price7day1;");
        for (int s = 0; s < 9; s++) due("on the last one alone: rests(" + s + ")", x.rests(s), 1 << 9);
        due("the last one rests on none", x.rests(9), 0);
        x.bind(0, false);
        x.bind(9, true);
        due("on the first one alone", x.rests(9), 1);
        due("the first one rests on none", x.rests(0), 0);
        Check.says("23: rests: what is asked changes nothing");
        told(FEW);
        String was = Check.shot(x);
        x.rests(0);
        x.rests(1);
        Check.due("behind rests()", Check.shot(x), was);
    }

    private static void all() {
        Check.says("27: all: SALES whose WORTH is by a METHOD (1 to 6; 0: all fail), as bits; NONE: another one");
        for (WorthLadder w : new WorthLadder[] {new WorthLadder(), Check.told(FEW), full()}) none("all", 7, -1, w::all);
        x = full();
        int[] want = {0, 511, 0, 0, 512, 0, 0};
        for (int m = 0; m <= 6; m++) due("full: all(" + m + ")", x.all(m), want[m]);
        due("the last row is taken back", x.undo(), 11);
        due("full: all(0), the last SALE fails", x.all(0), 512);
        due("full: all(4)", x.all(4), 0);
    }

    private static void report() {
        Check.says("28: report: Its byte i; how many bytes (i NONE); -2: not so many; NONE: i below that");
        String head = "party pa;party pb;good ga group 1 land 1;";
        told(head);
        due("no SALES: report(-1)", x.report(-1), 0);
        due("no SALES: report(0)", x.report(0), -2);
        due("no SALES: report(-2)", x.report(-2), -1);
        told(head + "sale s ga pa pb pieces 1 price 1 day 5;");
        Check.due("a NAME of one letter", Check.report(x), "s by 1 worth 1 ; ");
        x.bind(0, true);
        Check.due("it fails", Check.report(x), "s fails ; ");
        x.resell(0, 1, 1, 5);
        Check.due("a WORTH of 0", Check.report(x), "s by 4 worth 0 ; ");
        x.undo();
        due("the last byte", x.report(9), ' ');
        due("the byte ahead of that", x.report(8), ';');
        due("behind the last", x.report(10), -2);
        for (int v : ABOVE) due("report(" + v + ")", x.report(v), -2);
        for (int v : BELOW) if (v < -1) due("report(" + v + ")", x.report(v), -1);
        told(head + "sale abcdxyz ga pa pb pieces 9999 price 9999 day 5 royalty 99 fee 9999 packing 9999 freight 9999;sale zzzzzzz ga pa pb pieces 1 price 10 day 999;sale aaaaaaa ga pa pb pieces 1 price 9 day 500;");
        Check.due("NAMES of seven letters", Check.report(x), "abcdxyz by 1 worth 198990198 ; zzzzzzz by 1 worth 10 ; aaaaaaa by 1 worth 9 ; ");
        // The greatest WORTH there is: ten SALES of it are the longest report.
        String many = "party a;party b;good g group1land1;band from2less90;band from3less0;assist m worth9999first;assist n worth9999first;";
        StringBuilder ten = new StringBuilder();
        for (char c = 'a'; c <= 'i'; c++) ten.append("sale nameso").append(c).append(" g a b pieces9999price1day5bound;");
        told(many + ten + "sale nameful g a b pieces2price9999day5royalty99fee9999packing9999freight9999uses m uses n;");
        StringBuilder want = new StringBuilder();
        long worth = (69793L + 2 * 9999) * 9999 * 100 / 20;
        for (char c = 'a'; c <= 'i'; c++) want.append("nameso").append(c).append(" by 2 worth ").append(worth).append(" ; ");
        Check.due("ten SALES", Check.report(x), want + "nameful by 1 worth 89791 ; ");
        due("its length", x.report(-1), want.length() + 27);
    }

    // ---- ACTS

    /** ACTS that are refused, whatever is told in FEW. */
    private static void refusedActs() {
        Check.says("acts: what is refused changes nothing and is no ACT");
        told(FEW);
        x.price(0, 101);
        x.keep(0, false);
        x.price(0, 102);
        String was = Check.shot(x);
        due("price", x.price(0, 0) + x.price(0, 10000) + x.price(0, 102) + x.price(-1, 5) + x.price(2, 5), -5);
        due("bind", x.bind(0, false) || x.bind(1, true) || x.bind(2, true) || x.bind(-1, true), false);
        due("relate", x.relate(0, 1, true) || x.relate(1, 0, true) || x.relate(0, 0, true) || x.relate(0, 2, false) || x.relate(0, 3, true) || x.relate(3, 0, true), false);
        due("rule", x.rule(0, 5) + x.rule(0, -1) + x.rule(0, 51) + x.rule(1, 0) + x.rule(1, 1000) + x.rule(2, 91) + x.rule(3, 100) + x.rule(4, 5) + x.rule(-1, 5), -9);
        due("resell", x.resell(2, 1, 1, 1) + x.resell(-1, 1, 1, 1) + x.resell(0, 0, 1, 1) + x.resell(0, 1, 0, 1) + x.resell(0, 1, 1, -1) + x.resell(0, 1, 1, 1000), -6);
        due("spread", x.spread(0, 10) + x.spread(0, -1) + x.spread(0, 10000) + x.spread(2, 1) + x.spread(1, 0), -5);
        due("lessen", x.lessen(0, 10) + x.lessen(0, -1) + x.lessen(0, 91) + x.lessen(2, 1), -4);
        due("keep", x.keep(1, true) || x.keep(2, false) || x.keep(-1, true), false);
        due("text", x.text(1) + x.text(-1), -2);
        Check.due("nothing changes", Check.shot(x), was);
        due("undo: the ACT ahead of them", x.undo(), 1);
        due("undo: PRICE", Check.sale(x, 0, 4), 101);
        due("undo: the one ahead of that", x.undo(), 0);
        due("undo: PRICE again", Check.sale(x, 0, 4), 100);
        due("the KEEP", x.keep(0, true), true);
        due("the KEEP's PRICE", Check.sale(x, 0, 4), 101);
    }

    /** One call that must be carried out: one ACT more, and taken back again nothing is left of it. */
    private static void act(String call, long got, long want, String was, int acts) {
        due(call, got, want);
        due(call + " is an ACT", x.count(11), acts + 1);
        due(call + " changes something", Check.shot(x).equals(was), false);
        due(call + " is taken back", x.undo(), acts);
        Check.due(call + " leaves nothing", Check.shot(x), was);
    }

    private static void priceBounds() {
        Check.says("29: price: (1 to 9999): what it was; NONE: others, none such, it is so");
        for (int s = 0; s < 2; s++) {
            told(FEW);
            String was = Check.shot(x);
            int told = 100 + 100 * s;
            due("0", x.price(s, 0), -1);
            due("10000", x.price(s, 10000), -1);
            for (int v : BELOW) due("below", x.price(s, v), -1);
            due("as it is", x.price(s, told), -1);
            Check.due("nothing changes", Check.shot(x), was);
            act("1", x.price(s, 1), told, was, 0);
            act("9999", x.price(s, 9999), told, was, 0);
        }
        told(FEW);
        x.price(0, 1);
        due("as it is: 1", x.price(0, 1), -1);
        due("9999", x.price(0, 9999), 1);
        due("as it is: 9999", x.price(0, 9999), -1);
        due("as it was", x.price(0, 1), 9999);
        due("three ACTS", x.count(11), 3);
        x = full();
        due("the last SALE", x.price(9, 9998), 9999);
        due("behind the last", x.price(10, 9998), -1);
        due("told", Check.sale(x, 9, 4), 9998);
    }

    private static void bindBounds() {
        Check.says("30: bind: true; false: none such, it is so");
        told(FEW);
        String was = Check.shot(x);
        due("free already", x.bind(0, false), false);
        due("bound already", x.bind(1, true), false);
        due("behind the last", x.bind(2, true), false);
        due("ahead of the first", x.bind(-1, false), false);
        Check.due("nothing changes", Check.shot(x), was);
        act("bound", x.bind(0, true) ? 1 : 0, 1, was, 0);
        act("free", x.bind(1, false) ? 1 : 0, 1, was, 0);
        x = full();
        due("the last SALE", x.bind(9, false), true);
        due("behind the last", x.bind(10, true), false);
    }

    private static void relateBounds() {
        Check.says("31: relate: false: none such, one and itself, it is so, there are 6 pairs");
        told(FEW);
        String was = Check.shot(x);
        for (int p = -1; p <= 3; p++) {
            due("one and itself: " + p, x.relate(p, p, true), false);
            due("one and itself, no more: " + p, x.relate(p, p, false), false);
            due("none such: " + p + ", 3", x.relate(p, 3, true) || x.relate(p, 3, false), false);
            due("none such: -1, " + p, x.relate(-1, p, true) || x.relate(-1, p, false), false);
        }
        due("told already", x.relate(0, 1, true), false);
        due("told already, the other way round", x.relate(1, 0, true), false);
        due("not told", x.relate(0, 2, false), false);
        due("not told, the other way round", x.relate(2, 1, false), false);
        Check.due("nothing changes", Check.shot(x), was);
        act("no more", x.relate(0, 1, false) ? 1 : 0, 1, was, 0);
        act("no more, the other way round", x.relate(1, 0, false) ? 1 : 0, 1, was, 0);
        act("told", x.relate(1, 2, true) ? 1 : 0, 1, was, 0);
        act("told, the other way round", x.relate(2, 0, true) ? 1 : 0, 1, was, 0);
        String parties = "party a;party b;party c;party d;party e;party f;";
        told(parties + "kin a b;kin a c;kin a d;kin a e;kin b c;");
        due("the sixth", x.relate(4, 5, true), true);
        due("six", x.count(13), 6);
        was = Check.shot(x);
        due("the seventh", x.relate(2, 3, true), false);
        due("one of the six", x.relate(5, 4, true), false);
        due("the last two PARTIES", x.relate(5, 3, true), false);
        Check.due("nothing changes", Check.shot(x), was);
        due("one of six no more", x.relate(0, 1, false), true);
        due("five", x.count(13), 5);
        due("then another", x.relate(2, 3, true), true);
        due("undo: that", x.undo(), 2);
        due("undo: the one no more", x.undo(), 1);
        due("undo: six again", x.count(13), 6);
        due("undo: told again", x.relate(1, 0, true), false);
        due("undo: the sixth", x.undo() * 10 + x.count(13), 5);
        told(parties);
        due("none told", x.count(13), 0);
        due("none to take away", x.relate(0, 1, false), false);
        int n = 0;
        for (int a = 0; a < 6; a++) for (int b = 0; b < a; b++) if (x.relate(a, b, true)) n++;
        due("just six of fifteen", n, 6);
        due("six told", x.count(13), 6);
    }

    private static void ruleBounds() {
        Check.says("32: rule: near, window, margin, duty, in bounds as told: what it was; NONE: others, it is so");
        int[] least = {0, 1, 0, 0};
        int[] most = {50, 999, 90, 99};
        int[] without = {5, 30, 20, 10};
        for (int k = 0; k < 4; k++) {
            told(FEW);
            String was = Check.shot(x);
            due(k + ": one too low", x.rule(k, least[k] - 1), -1);
            due(k + ": one too high", x.rule(k, most[k] + 1), -1);
            due(k + ": LOW", x.rule(k, LOW), -1);
            due(k + ": HIGH", x.rule(k, HIGH), -1);
            due(k + ": as it is", x.rule(k, without[k]), -1);
            Check.due(k + ": nothing changes", Check.shot(x), was);
            due(k + ": the least", x.rule(k, least[k]), without[k]);
            due(k + ": told", x.count(6 + k), least[k]);
            due(k + ": as it is now", x.rule(k, least[k]), -1);
            due(k + ": the most", x.rule(k, most[k]), least[k]);
            due(k + ": told again", x.count(6 + k), most[k]);
            due(k + ": as it is again", x.rule(k, most[k]), -1);
            for (int o = 0; o < 4; o++) if (o != k) due(k + ": others stay", x.count(6 + o), without[o]);
            due(k + ": undo", x.undo(), 1);
            due(k + ": undo, the least", x.count(6 + k), least[k]);
            due(k + ": undo again", x.undo(), 0);
            Check.due(k + ": nothing is left of it", Check.shot(x), was);
        }
        told(FEW);
        none("rule(what, 7)", 4, -1, v -> x.rule(v, 7));
        due("no ACT", x.count(11), 0);
    }

    private static void turns() {
        Check.says("33: turn: TURNED, or no more: which it is then (1, 0)");
        x = new WorthLadder();
        for (int i = 1; i <= 30; i++) {
            due("turn " + i, x.turn(), i % 2);
            due("told " + i, x.count(10), i % 2);
            due("ACTS " + i, x.count(11), Math.min(i, 12));
        }
        for (int left = 11; left >= 0; left--) due("undo, " + left, x.undo() * 10 + x.count(10), left * 10 + left % 2);
    }

    private static void resellBounds() {
        Check.says("34: resell: its number; NONE: out of bounds as in the TEXT, no such GOOD, there are 12");
        told(FEW);
        String was = Check.shot(x);
        int[][] out = {{0, 0, 1, 1}, {0, 10000, 1, 1}, {0, 1, 0, 1}, {0, 1, 10000, 1}, {0, 1, 1, -1}, {0, 1, 1, 1000}, {-1, 1, 1, 1}, {2, 1, 1, 1},
            {0, -1, 1, 1}, {0, 1, -1, 1}, {0, LOW, 1, 1}, {0, HIGH, 1, 1}, {0, 1, LOW, 1}, {0, 1, HIGH, 1}, {0, 1, 1, LOW}, {0, 1, 1, HIGH}, {LOW, 1, 1, 1}, {HIGH, 1, 1, 1}};
        for (int[] o : out) due("resell(" + o[0] + ", " + o[1] + ", " + o[2] + ", " + o[3] + ")", x.resell(o[0], o[1], o[2], o[3]), -1);
        Check.due("nothing changes", Check.shot(x), was);
        int[][] in = {{0, 1, 1, 0}, {1, 9999, 1, 1}, {1, 1, 9999, 1}, {1, 1, 1, 999}, {0, 9999, 9999, 999}};
        for (int[] i : in) {
            told(FEW);
            due("resell(" + i[0] + ", " + i[1] + ", " + i[2] + ", " + i[3] + ")", x.resell(i[0], i[1], i[2], i[3]), 1);
            for (int k = 0; k < 4; k++) due("resold(1, " + k + ")", x.resold(1, k), i[k]);
            due("resold(0, 0) stays", x.resold(0, 2), 2);
            due("undo", x.undo(), 0);
            due("it is gone", x.resold(1, 0), -1);
            Check.due("nothing is left of it", Check.shot(x), was);
        }
        told(FEW);
        for (int row = 1; row < 12; row++) due("row " + row, x.resell(1, row, row, row), row);
        was = Check.shot(x);
        due("there are 12", x.resell(1, 1, 1, 1), -1);
        Check.due("nothing changes", Check.shot(x), was);
        due("one is taken back", x.undo(), 10);
        due("room for one", x.resell(0, 5, 6, 7), 11);
        due("what it tells", x.resold(11, 0) * 1000 + x.resold(11, 1) * 100 + x.resold(11, 2) * 10 + x.resold(11, 3), 567);
        due("there are 12 again", x.resell(0, 5, 6, 7), -1);
        told("party a;");
        due("no GOODS", x.resell(0, 1, 1, 1), -1);
    }

    private static void spreadBounds() {
        Check.says("35: spread: (1 to 9999; 0: first): what it went by; NONE: others, none such, it is so");
        for (int a = 0; a < 2; a++) {
            told(FEW);
            String was = Check.shot(x);
            int by = a == 0 ? 10 : 0;
            due("-1", x.spread(a, -1), -1);
            due("10000", x.spread(a, 10000), -1);
            due("LOW", x.spread(a, LOW), -1);
            due("HIGH", x.spread(a, HIGH), -1);
            due("as it is", x.spread(a, by), -1);
            Check.due("nothing changes", Check.shot(x), was);
            act("1", x.spread(a, 1), by, was, 0);
            act("9999", x.spread(a, 9999), by, was, 0);
            if (a == 0) act("0: first", x.spread(a, 0), by, was, 0);
        }
        told(FEW);
        due("first", x.spread(0, 0), 10);
        due("first already", x.spread(0, 0), -1);
        due("by 1", x.spread(0, 1), 0);
        due("by 9999", x.spread(0, 9999), 1);
        due("so already", x.spread(0, 9999), -1);
        due("the other one stays", x.assist(1, 1), 0);
        x = full();
        due("the last ASSIST", x.spread(3, 9999), 0);
        due("behind the last", x.spread(4, 9999), -1);
    }

    private static void lessenBounds() {
        Check.says("36: lessen: (0 to 90): what it told; NONE: others, none such, it is so");
        for (int b = 0; b < 2; b++) {
            told(FEW);
            String was = Check.shot(x);
            int less = 10 + 10 * b;
            due("-1", x.lessen(b, -1), -1);
            due("91", x.lessen(b, 91), -1);
            due("100", x.lessen(b, 100), -1);
            due("LOW", x.lessen(b, LOW), -1);
            due("HIGH", x.lessen(b, HIGH), -1);
            due("as it is", x.lessen(b, less), -1);
            Check.due("nothing changes", Check.shot(x), was);
            act("0", x.lessen(b, 0), less, was, 0);
            act("90", x.lessen(b, 90), less, was, 0);
        }
        told(FEW);
        due("0", x.lessen(1, 0), 20);
        due("0 already", x.lessen(1, 0), -1);
        due("90", x.lessen(1, 90), 0);
        due("90 already", x.lessen(1, 90), -1);
        due("the other one stays", x.band(0, 1), 10);
        due("from stays", x.band(1, 0), 50);
        x = full();
        due("the last band", x.lessen(3, 0), 90);
        due("behind the last", x.lessen(4, 0), -1);
    }

    // ---- how many ACTS can be taken back

    private static void twelveActs() {
        Check.says("ACTS can be taken back, 12 at most");
        for (int acts : new int[] {1, 11, 12, 13, 14, 24, 25}) {
            told(FEW);
            for (int v = 1; v <= acts; v++) {
                x.price(0, 1000 + v);
                due("ACTS behind " + v, x.count(11), Math.min(v, 12));
            }
            int can = Math.min(acts, 12);
            for (int left = can - 1; left >= 0; left--) {
                due(acts + " ACTS: undo", x.undo(), left);
                int at = acts - can + left;
                due(acts + " ACTS: PRICE with " + left + " left", Check.sale(x, 0, 4), at == 0 ? 100 : 1000 + at);
                due(acts + " ACTS: count(11)", x.count(11), left);
            }
            String was = Check.shot(x);
            due(acts + " ACTS: none is left", x.undo(), -1);
            Check.due(acts + " ACTS: nothing changes", Check.shot(x), was);
        }
        Check.says("a thirteenth ACT of each sort is carried out");
        for (int sort = 0; sort < 8; sort++) {
            told(FEW);
            for (int i = 0; i < 12; i++) x.turn();
            String was = Check.state(x);
            actOf(sort);
            due("ACT " + sort + ": 12 still", x.count(11), 12);
            due("ACT " + sort + ": carried out", Check.state(x).equals(was), false);
            due("ACT " + sort + ": undo", x.undo(), 11);
            Check.due("ACT " + sort + ": taken back", Check.state(x), was);
        }
    }

    private static void actOf(int sort) {
        switch (sort) {
            case 0: x.price(0, 7); break;
            case 1: x.bind(0, true); break;
            case 2: x.relate(0, 2, true); break;
            case 3: x.rule(0, 7); break;
            case 4: x.turn(); break;
            case 5: x.resell(0, 7, 7, 7); break;
            case 6: x.spread(0, 7); break;
            default: x.lessen(0, 7); break;
        }
    }

    private static void wrapAround() {
        Check.says("ACTS, done and taken back in turn, far more than 12 of them");
        told(FEW);
        Deque<Integer> past = new ArrayDeque<>();
        int price = 100;
        int next = 1000;
        int[] steps = {5, -2, 12, -7, 3, -8, 1, -1, 13, -12, 11, -3, 4, -20, 12, -12};
        for (int step : steps) {
            for (int i = 0; i < step; i++) {
                due("price", x.price(0, ++next), price);
                past.addLast(price);
                if (past.size() > 12) past.removeFirst();
                price = next;
            }
            for (int i = 0; i > step; i--) {
                due("undo", x.undo(), past.isEmpty() ? -1 : past.size() - 1);
                if (!past.isEmpty()) price = past.removeLast();
                due("PRICE", Check.sale(x, 0, 4), price);
            }
            due("ACTS", x.count(11), past.size());
        }
    }

    private static void undoes() {
        Check.says("37: undo: The latest ACT is taken back: how many still can be; NONE: none");
        told(FEW);
        String[] shots = new String[9];
        for (int sort = 0; sort < 8; sort++) {
            shots[sort] = Check.shot(x);
            actOf(sort);
            due("ACT " + sort, x.count(11), sort + 1);
        }
        for (int sort = 7; sort >= 0; sort--) {
            due("undo " + sort, x.undo(), sort);
            Check.due("all as it was ahead of ACT " + sort, Check.shot(x), shots[sort]);
        }
        due("none", x.undo(), -1);
        Check.due("nothing changes", Check.shot(x), shots[0]);
        // There and back again: each is an ACT of its own.
        told(FEW);
        String was = Check.state(x);
        x.bind(1, false);
        x.bind(1, true);
        x.relate(0, 1, false);
        x.relate(0, 1, true);
        x.turn();
        x.turn();
        due("six ACTS though all is as it was", x.count(11), 6);
        for (int left = 5; left >= 0; left--) {
            due("undo", x.undo(), left);
            due("as it was, with " + left + " left", Check.state(x).equals(was), left % 2 == 0);
        }
        due("THE TAPE is no ACT's", x.feed(0, 0, 0, 0, 0), 20);
        due("undo: none", x.undo(), -1);
        due("THE TAPE stays", x.count(12), 20);
        x.turn();
        due("undo: one", x.undo(), 0);
        due("THE TAPE stays behind that", x.count(12), 20);
    }

    // ---- KEEPS

    private static void keeps() {
        Check.says("38: keep: true; false: none such, nothing is in it (back)");
        told(FEW);
        x.price(0, 7);
        String was = Check.shot(x);
        for (int k : new int[] {-1, 2, 3, 31, 32, 33, LOW, HIGH}) {
            due("keep(" + k + ")", x.keep(k, false), false);
            due("keep(" + k + ", back)", x.keep(k, true), false);
        }
        due("keep(0, back): nothing is in it", x.keep(0, true), false);
        due("keep(1, back): nothing is in it", x.keep(1, true), false);
        Check.due("nothing changes", Check.shot(x), was);
        for (int k = 0; k < 2; k++) {
            told(FEW);
            x.price(0, 7);
            was = Check.shot(x);
            due("keep(" + k + ")", x.keep(k, false), true);
            Check.due("nothing changes when one is laid", Check.shot(x), was);
            due("the other one is empty", x.keep(1 - k, true), false);
            due("and stays so", x.keep(1 - k, true), false);
            due("an ACT can still be taken back", x.undo(), 0);
            due("PRICE", Check.sale(x, 0, 4), 100);
            due("keep(" + k + ", back)", x.keep(k, true), true);
            due("PRICE of the KEEP", Check.sale(x, 0, 4), 7);
            due("nothing can be taken back", x.undo(), -1);
            due("count(11)", x.count(11), 0);
            due("laid over", x.price(0, 8) * 10 + (x.keep(k, false) ? 1 : 0), 71);
            x.price(0, 9);
            due("keep(" + k + ", back) again", x.keep(k, true), true);
            due("PRICE of the new one", Check.sale(x, 0, 4), 8);
            x.price(0, 9);
            due("ACTS begin anew", x.count(11), 1);
            due("twice gone back to", x.keep(k, true) && x.keep(k, true), true);
            due("PRICE still", Check.sale(x, 0, 4), 8);
        }
    }

    private static void keepsHoldAll() {
        Check.says("KEEPS 0 and 1 hold all but THE TAPE (nothing can be taken back when one is gone back to)");
        for (int sort = 0; sort < 8; sort++) {
            told(FEW);
            x.keep(0, false);
            String was = Check.shot(x);
            actOf(sort);
            String now = Check.state(x);
            x.keep(1, false);
            due("ACT " + sort + ": gone back", x.keep(0, true), true);
            Check.due("ACT " + sort + ": all as it was", Check.shot(x), was);
            due("ACT " + sort + ": and forth", x.keep(1, true), true);
            Check.due("ACT " + sort + ": all as it is", Check.state(x), now);
            due("ACT " + sort + ": it can't be taken back", x.undo(), -1);
        }
        Check.says("KEEPS hold all but THE TAPE");
        told(FEW);
        Check.lay(x, "party new;          ");
        x.keep(0, false);
        Check.lay(x, "party newer;        ");
        due("40 bytes", x.count(12), 40);
        due("gone back", x.keep(0, true), true);
        due("40 bytes still", x.count(12), 40);
        due("and they hold", x.text(40), 2);
        Check.says("a KEEP is no window on what is told: it holds what was so when it was laid");
        told(FEW);
        x.keep(0, false);
        x.keep(1, false);
        String was = Check.shot(x);
        for (int sort = 0; sort < 8; sort++) actOf(sort);
        due("gone back to 1", x.keep(1, true), true);
        Check.due("all as it was", Check.shot(x), was);
        for (int sort = 0; sort < 8; sort++) actOf(sort);
        due("gone back to 0", x.keep(0, true), true);
        Check.due("all as it was, by 0", Check.shot(x), was);
    }

    private static void keepsAndText() {
        Check.says("text() takes nothing back, KEEPS are empty then; it isn't TURNED");
        for (String text : new String[] {"", " ", "party z;", FEW}) {
            told(FEW);
            x.turn();
            x.keep(0, false);
            x.keep(1, false);
            x.price(0, 3);
            Check.tell(x, text);
            due("it isn't TURNED", x.count(10), 0);
            due("nothing can be taken back", x.count(11), 0);
            due("undo()", x.undo(), -1);
            due("keep(0, back)", x.keep(0, true), false);
            due("keep(1, back)", x.keep(1, true), false);
            due("one can be laid again", x.keep(1, false), true);
            due("the other one stays empty", x.keep(0, true), false);
            due("gone back to", x.keep(1, true), true);
        }
        told(FEW);
        for (int i = 0; i < 13; i++) x.turn();
        Check.tell(x, FEW);
        x.price(0, 3);
        due("ACTS begin anew", x.undo(), 0);
        due("none more", x.undo(), -1);
    }

    // ---- how many calls

    private static void calls512() {
        Check.says("An object is used for at most 512 calls after it has been made");
        x = new WorthLadder();
        int calls = 0;
        int[] v = Check.numbers(FULL);
        for (int i = 0; i < v.length; i += 5) {
            due("feed", x.feed(v[i], v[i + 1], v[i + 2], v[i + 3], v[i + 4]), 4 * i + 20);
            calls++;
        }
        due("text", x.text(FULL.length()), 36);
        calls++;
        for (int i = 0; i < 12; i++, calls++) due("resell", x.resell(0, 1 + i, 11, 1), i);
        int length = x.report(-1);
        calls++;
        due("report", length, 9 * "q by 1 worth 1 ; ".length() + "z fails ; ".length());
        int[] prices = {1, 1, 1, 1, 1, 1, 1, 1, 1, 9999};
        while (calls < 504) {
            int s = calls % 10;
            switch (calls % 7) {
                case 0: due("rests, call " + calls, x.rests(s), 0); break;
                case 1: due("test, call " + calls, x.test(s, -1), s == 9 ? 0 : 9); break;
                case 2: due("sale, call " + calls, Check.sale(x, s, 4), prices[s]); break;
                case 3: due("sale, call " + calls, Check.sale(x, s + 10, 4), Check.THROWN); break;
                case 4: due("resell, call " + calls, x.resell(0, 1, 1, 1), -1); break;
                case 5: due("keep, call " + calls, x.keep(calls % 2, false), true); break;
                default: due("report, call " + calls, x.report(length), -2); break;
            }
            calls++;
        }
        due("call 505", x.price(9, 1), 9999);
        due("call 506", x.own(0), 1);
        due("call 507", x.undo(), 11);
        due("call 508", Check.sale(x, 9, 4), 9999);
        due("call 509", x.keep(1, true), true);
        due("call 510", x.undo(), -1);
        due("call 511", x.all(1), 511);
        due("call 512", x.report(length - 1), ' ');
    }
}
