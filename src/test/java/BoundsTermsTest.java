/** The bounds of what the TERMS of part 2 say, sentence by sentence: KIN, LEVELS, SHARES, window, near, each METHOD. */
public final class BoundsTermsTest {
    private static final String P = "party pa;party pb;party pc;party pd;kin pa pb;";
    private static final String G = "good ga group 1 land 2;good gb group 1 land 2;good gc group 1 land 3;good gd group 2 land 2;";

    private static WorthLadder x;

    public static void main(String[] args) {
        kin();
        levels();
        less();
        similar();
        sharesFirst();
        sharesBy();
        own();
        methodOneFails();
        testsBySales();
        testsByMethods();
        brought();
        near();
        methodsTwoAndThree();
        sameLevel();
        leastFromFirst();
        methodFourDays();
        methodFourPrice();
        methodFourWorth();
        methodFive();
        methodSix();
        order();
        dues();
        Check.finish();
    }

    private static void due(String call, long got, long want) { Check.due(call, got, want); }

    private static void told(String text) { x = Check.told(text); }

    // ---- KIN, LEVEL, SIMILAR

    private static void kin() {
        Check.says("KIN are two PARTIES told so, and all that are so by others in between");
        String six = "party pa;party pb;party pc;party pd;party pe;party pf;";
        // A chain over all of them, in an order in which no neighbour is told next to the other.
        told(six + "kin pd pa;kin pf pc;kin pa pe;kin pb pf;kin pc pd;");
        for (int a = 0; a < 6; a++) for (int b = 0; b < 6; b++) due("a chain of six: kin(" + a + ", " + b + ")", x.kin(a, b), 1);
        x.relate(2, 3, false);
        // Without the link in its midst: pa, pd, pe and pb, pc, pf.
        int[] side = {0, 1, 1, 0, 0, 1};
        for (int a = 0; a < 6; a++) for (int b = 0; b < 6; b++) due("two chains: kin(" + a + ", " + b + ")", x.kin(a, b), side[a] == side[b] ? 1 : 0);
        told(six);
        for (int a = 0; a < 6; a++) for (int b = 0; b < 6; b++) due("none told: kin(" + a + ", " + b + ")", x.kin(a, b), a == b ? 1 : 0);
        told("party pa;party pb;party pc;kin pa pb;kin pb pc;good ga group 1 land 1;sale sa ga pa pc pieces 1 price 1 day 1;");
        due("KIN by one in between: METHOD 1 fails", x.by(0, 1), -2 - 12);
        x.relate(0, 1, false);
        due("KIN no more", x.by(0, 1), 1);
    }

    private static void levels() {
        Check.says("LEVEL of a SALE: the last band from which its PIECES are no fewer (0 ahead of all, then 1 and on)");
        int[] pieces = {1, 2, 3, 4, 5, 9997, 9998, 9999};
        int[] want = {0, 1, 2, 2, 2, 2, 3, 4};
        StringBuilder sales = new StringBuilder();
        for (int i = 0; i < pieces.length; i++) sales.append("sale s").append((char) ('a' + i)).append(" ga pc pd pieces ").append(pieces[i]).append(" price 1 day 1;");
        told(P + "good ga group 1 land 1;" + sales + "band from 2 less 1;band from 3 less 1;band from 9998 less 1;band from 9999 less 1;");
        for (int i = 0; i < pieces.length; i++) due("LEVEL of " + pieces[i], Check.sale(x, i, 12), want[i]);
        told(P + "good ga group 1 land 1;" + sales);
        for (int i = 0; i < pieces.length; i++) due("no bands, LEVEL of " + pieces[i], Check.sale(x, i, 12), 0);
        told(P + "good ga group 1 land 1;" + sales + "band from 9998 less 1;");
        for (int i = 0; i < pieces.length; i++) due("one band, LEVEL of " + pieces[i], Check.sale(x, i, 12), pieces[i] >= 9998 ? 1 : 0);
    }

    private static void less() {
        Check.says("LESS what that tells (0 at LEVEL 0)");
        told(P + G + "sale sa ga pc pd pieces 1 price 1000 day 1;sale sb ga pc pd pieces 2 price 1000 day 1;sale sc ga pc pd pieces 3 price 1000 day 1;"
            + "band from 2 less 90;band from 3 less 50;");
        // To sa: from sb 2000 * 100 by 2 * 10, from sc 3000 * 100 by 3 * 50.
        due("from LEVEL 1 to 0", x.test(0, 0), 10000);
        due("from LEVEL 2 to 0", x.test(0, 1), 2000);
        // To sb: from sa 1000 * 2 * 10 by 100, from sc 3000 * 2 * 10 by 3 * 50.
        due("from LEVEL 0 to 1", x.test(1, 0), 200);
        due("from LEVEL 2 to 1", x.test(1, 1), 400);
        due("from LEVEL 0 to 2", x.test(2, 0), 1500);
        due("from LEVEL 1 to 2", x.test(2, 1), 15000);
        x.lessen(0, 0);
        due("LESS of 0 at LEVEL 1", x.test(0, 0), 1000);
    }

    private static void similar() {
        Check.says("SIMILAR are two unlike GOODS with one group, one land");
        told("good ga group 0 land 9;good gb group 0 land 9;good gc group 0 land 8;good gd group 1 land 9;good ge group 9 land 0;good gf group 9 land 0;");
        int[][] want = {{1, 2, 0, 0, 0, 0}, {2, 1, 0, 0, 0, 0}, {0, 0, 1, 0, 0, 0}, {0, 0, 0, 1, 0, 0}, {0, 0, 0, 0, 1, 2}, {0, 0, 0, 0, 2, 1}};
        for (int a = 0; a < 6; a++) for (int b = 0; b < 6; b++) due("like(" + a + ", " + b + ")", x.like(a, b), want[a][b]);
        told(P + G + "sale sa ga pc pd pieces 1 price 1 day 1 bound;sale sb ga pc pd pieces 1 price 1 day 1;");
        due("a GOOD is not SIMILAR to itself", x.by(0, 3), -2 - 31);
    }

    // ---- SHARES

    private static void shares(String when, int assist, int... want) {
        int left = x.assist(assist, 0);
        for (int s = 0; s < want.length; s++) {
            due(when + ": share(" + assist + ", " + s + ")", x.share(assist, s), want[s]);
            left -= want[s];
        }
        due(when + ": rest(" + assist + ")", x.rest(assist), left);
    }

    private static void sharesFirst() {
        Check.says("SHARE: of SALES that use it by DAY, then by number: first: all its worth is the first one's");
        told(P + G + "assist mo worth 9999 first;assist de worth 1 first;assist no worth 7 first;"
            + "sale sa ga pc pd pieces 1 price 1 day 1;sale sb ga pc pd pieces 1 price 1 day 999 uses mo;sale sc ga pc pd pieces 1 price 1 day 998 uses mo uses de;"
            + "sale sd ga pc pd pieces 1 price 1 day 998 uses mo uses de;sale se ga pc pd pieces 1 price 1 day 0 uses de bound;");
        shares("the lower number of one DAY", 0, 0, 0, 9999, 0, 0);
        shares("DAY 0, and a bound one too", 1, 0, 0, 0, 0, 1);
        shares("none uses it", 2, 0, 0, 0, 0, 0);
    }

    private static void sharesBy() {
        Check.says("SHARE: by n: worth times its PIECES by n, CUT, of PIECES so many as are left of n alone");
        String sales = "sale sa ga pc pd pieces 4 price 1 day 5 uses mo;sale sb ga pc pd pieces 6 price 1 day 5 uses mo;sale sc ga pc pd pieces 1 price 1 day 6 uses mo;";
        told(P + G + "assist mo worth 100 by 10;" + sales);
        shares("n is just used up", 0, 40, 60, 0);
        x.spread(0, 11);
        // 36.3, 54.5, 9.09.
        shares("one is left", 0, 36, 54, 9);
        x.spread(0, 12);
        shares("more than are used", 0, 33, 50, 8);
        x.spread(0, 9);
        // 44.4, and 5 of 6 PIECES: 55.5.
        shares("one too few", 0, 44, 55, 0);
        x.spread(0, 5);
        shares("one left of six", 0, 80, 20, 0);
        x.spread(0, 4);
        shares("none left behind the first", 0, 100, 0, 0);
        x.spread(0, 3);
        shares("too few for the first", 0, 100, 0, 0);
        x.spread(0, 1);
        shares("by 1", 0, 100, 0, 0);
        x.spread(0, 9999);
        shares("cut to nothing", 0, 0, 0, 0);
        x.spread(0, 400);
        shares("just 1", 0, 1, 1, 0);
        x.spread(0, 401);
        shares("just below 1", 0, 0, 1, 0);
        x.spread(0, 10);
        shares("by 10 again", 0, 40, 60, 0);
        x.spread(0, 0);
        shares("first", 0, 100, 0, 0);
        told(P + G + "assist mo worth 9999 by 9999;sale sa ga pc pd pieces 9999 price 1 day 0 uses mo;sale sb ga pc pd pieces 9999 price 1 day 0 uses mo;");
        shares("the greatest", 0, 9999, 0);
        told(P + G + "assist mo worth 9999 by 9998;sale sa ga pc pd pieces 9997 price 1 day 0 uses mo;sale sb ga pc pd pieces 9999 price 1 day 0 uses mo;");
        // 9999 * 9997 by 9998 is 9997.99, 9999 by 9998 is 1.0001.
        shares("one is left of 9998", 0, 9997, 1);
    }

    // ---- METHOD 1

    private static void own() {
        Check.says("OWN: PRICE times PIECES, and of that royalty by 100, CUT, and fee, packing, freight, and its SHARES");
        told(P + G + "sale sa ga pc pd pieces 1 price 1 day 0;sale sb ga pc pd pieces 1 price 99 day 0 royalty 1;sale sc ga pc pd pieces 1 price 100 day 0 royalty 1;"
            + "sale sd ga pc pd pieces 9999 price 9999 day 0 royalty 99 fee 9999 packing 9999 freight 9999;sale se ga pc pd pieces 7 price 7 day 0 royalty 0 fee 0;");
        due("the least", x.own(0), 1);
        due("a royalty just below 1", x.own(1), 99);
        due("a royalty of 1", x.own(2), 101);
        due("the greatest without SHARES", x.own(3), 198990198L);
        due("royalty and fee of 0", x.own(4), 49);
        told(P + G + "assist ma worth 9999 first;assist mb worth 9999 first;assist mc worth 9999 first;assist md worth 9999 by 9999;"
            + "sale sa ga pc pd pieces 9999 price 9999 day 0 royalty 99 fee 9999 packing 9999 freight 9999 uses ma uses mb uses mc uses md;");
        due("the greatest", x.own(0), 198990198L + 39996);
        told(P + G + "made ga cost 1 profit 0;sale sa ga pc pd pieces 1 price 1 day 0 fee 20 packing 300 freight 4000;");
        due("each of them once", x.own(0), 4321);
        due("METHOD 5 without the fee", x.by(0, 5), 4301);
    }

    private static void methodOneFails() {
        Check.says("METHOD 1 fails, if the SALE is bound (why 11), or if who sells and who buys are KIN and it doesn't PASS: there is no TEST (why 12), or none is near (why 13)");
        told(P + G + "sale sa ga pc pd pieces 1 price 10 day 5 bound;sale sb ga pa pb pieces 1 price 10 day 5;sale sc gd pc pd pieces 1 price 10 day 5;");
        due("bound", x.by(0, 1), -2 - 11);
        due("KIN, no TEST", x.by(1, 1), -2 - 12);
        due("no KIN, no TEST", x.by(2, 1), 10);
        x.bind(0, false);
        due("KIN, near", x.by(1, 1), 10);
        x.price(1, 11);
        due("KIN, none near", x.by(1, 1), -2 - 13);
        due("no KIN, none near", x.by(0, 1), 10);
        x.bind(1, true);
        due("bound, KIN, none near", x.by(1, 1), -2 - 11);
        x.price(1, 10);
        due("bound, KIN, near", x.by(1, 1), -2 - 11);
        due("bound, yet it PASSES", x.passes(1), 1);
    }

    private static void testsBySales() {
        Check.says("TESTS: of other SALES that are not bound, between no KIN, of the same GOOD or a SIMILAR one, no more than window DAYS ahead or behind");
        String form = P + G + "sale sa ga pa pb pieces 1 price 10 day 500;sale sb %s %s pieces 1 price 20 day %d%s;window %d;";
        Object[][] cases = {{"ga", "pc pd", 500, "", 30, 1}, {"gb", "pc pd", 500, "", 30, 1}, {"gc", "pc pd", 500, "", 30, 0}, {"gd", "pc pd", 500, "", 30, 0},
            {"ga", "pc pd", 500, " bound", 30, 0}, {"ga", "pa pb", 500, "", 30, 0}, {"ga", "pb pa", 500, "", 30, 0}, {"ga", "pa pc", 500, "", 30, 1},
            {"ga", "pc pd", 530, "", 30, 1}, {"ga", "pc pd", 531, "", 30, 0}, {"ga", "pc pd", 470, "", 30, 1}, {"ga", "pc pd", 469, "", 30, 0},
            {"gb", "pc pd", 530, "", 30, 1}, {"gb", "pc pd", 531, "", 30, 0}, {"gb", "pc pd", 470, "", 30, 1}, {"gb", "pc pd", 469, "", 30, 0},
            {"ga", "pc pd", 501, "", 1, 1}, {"ga", "pc pd", 502, "", 1, 0}, {"ga", "pc pd", 499, "", 1, 1}, {"ga", "pc pd", 498, "", 1, 0},
            {"ga", "pc pd", 999, "", 499, 1}, {"ga", "pc pd", 999, "", 498, 0}, {"ga", "pc pd", 0, "", 500, 1}, {"ga", "pc pd", 0, "", 499, 0}};
        for (Object[] c : cases) {
            told(String.format(form, c[0], c[1], c[2], c[3], c[4]));
            int want = (Integer) c[5];
            due(String.format("TESTS by '%s %s day %d%s', window %d", c[0], c[1], c[2], c[3], c[4]), x.test(0, -1), want);
            due("the first TEST", x.test(0, 0), want == 1 ? 20 : -2);
        }
        told(P + G + "sale sa ga pa pb pieces 1 price 10 day 0;sale sb ga pc pd pieces 1 price 20 day 999;window 999;");
        due("the widest window", x.test(0, -1), 1);
        x.rule(1, 998);
        due("one DAY less", x.test(0, -1), 0);
    }

    private static void testsByMethods() {
        Check.says("TESTS: BROUGHT from them, in order of SALES; then what METHOD 4, what METHOD 5 tell of it, if they don't fail");
        String base = P + G + "sale sa ga pc pd pieces 1 price 30 day 5;sale sb ga pa pb pieces 1 price 10 day 5;sale sc gb pc pd pieces 1 price 20 day 5;duty 0;margin 0;";
        told(base);
        tests("SALES alone", 30, 20);
        told(base + "resold ga pieces 1 price 15 day 5;");
        tests("and METHOD 4", 30, 20, 15);
        told(base + "made ga cost 5 profit 0;");
        tests("and METHOD 5", 30, 20, 5);
        told(base + "made ga cost 5 profit 0;resold ga pieces 1 price 15 day 5;");
        tests("and both", 30, 20, 15, 5);
        x.turn();
        tests("TURNED, in the same order", 30, 20, 15, 5);
        x.bind(0, true);
        x.bind(2, true);
        tests("METHODS alone", 15, 5);
        told(base + "made gb cost 5 profit 0;resold ga pieces 1 price 15 day 4;");
        tests("METHODS that fail", 30, 20);
        told(P + G + "sale sa ga pc pd pieces 1 price 30 day 5;sale sb ga pa pb pieces 1 price 10 day 5;resold ga pieces 1 price 1 day 5;margin 90;");
        tests("a TEST of 0 is one", 30, 0);
    }

    private static void tests(String when, long... want) {
        due(when + ": how many", x.test(1, -1), want.length);
        for (int k = 0; k < want.length; k++) due(when + ": test(1, " + k + ")", x.test(1, k), want[k]);
        due(when + ": no more", x.test(1, want.length), -2);
    }

    private static void brought() {
        Check.says("BROUGHT: OWN of that times PIECES of this times (100 less LESS of this) by (PIECES of that times (100 less LESS of that)), CUT");
        told(P + G + "sale sa ga pc pd pieces 9999 price 1 day 5;sale sb ga pc pd pieces 2 price 9999 day 5 royalty 99 fee 9999 packing 9999 freight 9999;"
            + "band from 2 less 90;band from 3 less 0;");
        due("beyond 32 bits", x.test(0, 0), 3489301035L);
        // 9999 times 2 times 10 by 9999 times 100.
        due("cut to 0", x.test(1, 0), 0);
        x.lessen(0, 0);
        due("just 2", x.test(1, 0), 2);
        told(P + G + "sale sa ga pc pd pieces 9999 price 9999 day 5 royalty 99;sale sb ga pc pd pieces 9998 price 1 day 5;band from 9999 less 90;");
        // 198960201 and, of that, the whole: it is cut once, at the end.
        long own = 9999L * 9999 + 9999L * 9999 * 99 / 100;
        due("once cut, at the end", x.test(1, 0), own * 9998 * 100 / (9999L * 10));
    }

    private static void near() {
        Check.says("Near: OWN and the TEST differ by no more than near by 100 of the TEST");
        String form = P + G + "sale sa ga pa pb pieces 1 price %d day 5;sale sb ga pc pd pieces 1 price %d day 5;near %d;";
        // OWN, TEST, near, whether it PASSES.
        int[][] cases = {{100, 100, 0, 1}, {101, 100, 0, 0}, {99, 100, 0, 0}, {150, 100, 50, 1}, {151, 100, 50, 0}, {50, 100, 50, 1}, {49, 100, 50, 0},
            {105, 100, 5, 1}, {106, 100, 5, 0}, {95, 100, 5, 1}, {94, 100, 5, 0}, {103, 99, 5, 1}, {104, 99, 5, 0}, {95, 99, 5, 1}, {94, 99, 5, 0},
            {1, 1, 0, 1}, {1, 1, 50, 1}, {2, 1, 50, 0}, {1, 2, 50, 1}, {1, 2, 49, 0}, {3, 2, 50, 1}, {4, 2, 50, 0}, {20, 19, 5, 0}, {21, 20, 5, 1},
            {9999, 9999, 0, 1}, {9999, 6666, 50, 1}, {9999, 6665, 50, 0}, {9999, 6666, 49, 0}};
        for (int[] c : cases) {
            told(String.format(form, c[0], c[1], c[2]));
            String when = "OWN " + c[0] + ", TEST " + c[1] + ", near " + c[2];
            due(when + ": passes", x.passes(0), c[3]);
            due(when + ": by METHOD 1", x.by(0, 1), c[3] == 1 ? c[0] : -2 - 13);
        }
        Check.says("Near a TEST of 0: none is");
        told(P + G + "sale sa ga pa pb pieces 1 price 1 day 5;resold ga pieces 1 price 1 day 5;near 50;");
        due("one TEST", x.test(0, -1), 1);
        due("of 0", x.test(0, 0), 0);
        due("passes", x.passes(0), 0);
        due("why", x.why(0, 0), 13);
        due("prices", x.prices(0, 0), 0);
        due("needs", x.needs(0), -2);
        Check.says("Near: TESTS of another SALE don't count");
        told(P + G + "sale sa gd pc pd pieces 1 price 50 day 5;sale sb ga pa pb pieces 1 price 50 day 5;sale sc ga pc pd pieces 1 price 50 day 5;sale sd ga pc pd pieces 1 price 50 day 5;");
        due("TESTS of sb", x.test(1, -1), 2);
        due("no TEST: passes", x.passes(0), 0);
        due("no TEST: needs", x.needs(0), -2);
        due("no TEST: prices", x.prices(0, 0), 0);
        due("near, among KIN: needs", x.needs(1), 0);
        due("near, among no KIN: needs", x.needs(2), 0);
        x.relate(0, 1, false);
        x.price(2, 53);
        // TESTS for sc are 50 and 50, for sd 50 and 53.
        due("6 of 100: needs", x.needs(2), 6);
        due("none apart: needs", x.needs(3), 0);
        Check.says("Near: one TEST is enough");
        told(P + G + "sale sa ga pa pb pieces 1 price 50 day 5;sale sb ga pc pd pieces 1 price 10 day 5;sale sc ga pc pd pieces 1 price 90 day 5;sale sd ga pc pd pieces 1 price 50 day 5;near 0;");
        due("the last of three", x.passes(0), 1);
        x.price(3, 51);
        due("none of three", x.passes(0), 0);
        x.price(1, 50);
        due("the first of three", x.passes(0), 1);
    }

    // ---- METHODS 2, 3

    private static void methodsTwoAndThree() {
        Check.says("METHODS 2, 3: of other SALES by which METHOD 1 doesn't fail, no more than window DAYS off. None: why 21, 31");
        String form = P + G + "sale sa ga pc pd pieces 1 price 10 day 500 bound;sale sb %s %s pieces 1 price 20 day %d%s;window %d;resold ga pieces 1 price 20 day 520;margin 0;duty 0;";
        Object[][] cases = {{"pc pd", 500, "", 30, 1}, {"pc pd", 500, " bound", 30, 0}, {"pc pd", 530, "", 30, 1}, {"pc pd", 531, "", 30, 0},
            {"pc pd", 470, "", 30, 1}, {"pc pd", 469, "", 30, 0}, {"pc pd", 501, "", 1, 1}, {"pc pd", 502, "", 1, 0}, {"pc pd", 499, "", 1, 1},
            {"pc pd", 498, "", 1, 0}, {"pc pd", 999, "", 499, 1}, {"pc pd", 999, "", 498, 0}, {"pc pd", 0, "", 500, 1}, {"pc pd", 0, "", 499, 0},
            // KIN pass by what was resold, if that is near.
            {"pa pb", 500, "", 30, 1}, {"pa pb", 500, " fee 2", 30, 0}};
        for (Object[] c : cases) {
            for (int method = 2; method <= 3; method++) {
                told(String.format(form, method == 2 ? "ga" : "gb", c[0], c[1], c[2], c[3]));
                boolean is = (Integer) c[4] == 1;
                String when = String.format("METHOD %d from '%s day %d%s', window %d", method, c[0], c[1], c[2], c[3]);
                int why = method == 2 ? 21 : 31;
                due(when, x.by(0, method), is ? 20 : -2 - why);
                due(when + ": from", x.base(0, method), is ? 1 : -2 - why);
                due(when + ": the other METHOD", x.by(0, 5 - method), -2 - (52 - why));
            }
        }
        for (String good : new String[] {"gc", "gd"}) {
            told(String.format(form, good, "pc pd", 500, "", 30));
            due("METHOD 2, another GOOD", x.by(0, 2), -2 - 21);
            due("METHOD 3, no SIMILAR one", x.by(0, 3), -2 - 31);
        }
        told(P + G + "sale sa ga pc pd pieces 1 price 10 day 500;");
        due("METHOD 2: not from itself", x.by(0, 2), -2 - 21);
        due("METHOD 3: not from itself", x.by(0, 3), -2 - 31);
    }

    private static void sameLevel() {
        Check.says("METHODS 2, 3: those of the same LEVEL, if there are any, else all");
        for (int method = 2; method <= 3; method++) {
            String good = method == 2 ? "ga" : "gb";
            told(P + G + "sale sa ga pc pd pieces 10 price 10 day 5 bound;sale sb " + good + " pc pd pieces 9 price 20 day 5;sale sc " + good
                + " pc pd pieces 19 price 50 day 5;sale sd " + good + " pc pd pieces 20 price 30 day 5;band from 10 less 0;band from 20 less 0;");
            due("METHOD " + method + ": the one of its LEVEL, though dearer", x.by(0, method), 500);
            due("METHOD " + method + ": from", x.base(0, method), 2);
            x.bind(2, true);
            due("METHOD " + method + ": none of its LEVEL, the least of all", x.by(0, method), 200);
            due("METHOD " + method + ": from whichever LEVEL", x.base(0, method), 1);
            x.price(1, 31);
            due("METHOD " + method + ": above its LEVEL too", x.base(0, method), 3);
        }
    }

    private static void leastFromFirst() {
        Check.says("METHODS 2, 3, 6: the least that is BROUGHT (of like ones from the first SALE)");
        String form = P + G + "sale sa %1$s pc pd pieces 1 price %2$d day 5;sale sb %1$s pc pd pieces 1 price %3$d day 5;sale sc ga pc pd pieces 1 price 1 day 5 bound;sale sd %1$s pc pd pieces 1 price %4$d day 5;";
        int[][] cases = {{20, 20, 20, 0}, {21, 20, 20, 1}, {21, 21, 20, 3}, {20, 19, 20, 1}, {20, 20, 19, 3}, {19, 20, 20, 0}};
        for (int method : new int[] {2, 3, 6}) {
            String good = method == 2 ? "ga" : method == 3 ? "gb" : "gc";
            for (int[] c : cases) {
                told(String.format(form, good, c[0], c[1], c[2]));
                due("METHOD " + method + " of " + c[0] + ", " + c[1] + ", " + c[2], x.base(2, method), c[3]);
                due("METHOD " + method + ": the least", x.by(2, method), Math.min(c[0], Math.min(c[1], c[2])));
            }
        }
        // 20 by 2 and 21 by 2: both are 10 when CUT.
        told(P + G + "sale sa ga pc pd pieces 2 price 10 day 5 fee 1;sale sb ga pc pd pieces 2 price 10 day 5;sale sc ga pc pd pieces 1 price 1 day 5 bound;");
        due("like ones when CUT", x.base(2, 2), 0);
    }

    // ---- METHOD 4

    private static void methodFourDays() {
        Check.says("METHOD 4: resold rows of its GOOD, of its DAY up to 3 times window DAYS later; if there are none, of SIMILAR GOODS; none: why 41");
        // The GOOD, the row's DAY, the window; the SALE's DAY is 500.
        Object[][] cases = {{"ga", 500, 30, 1}, {"ga", 499, 30, 0}, {"ga", 590, 30, 1}, {"ga", 591, 30, 0}, {"gb", 500, 30, 1}, {"gb", 499, 30, 0}, {"gb", 590, 30, 1},
            {"gb", 591, 30, 0}, {"gc", 500, 30, 0}, {"gd", 500, 30, 0}, {"ga", 503, 1, 1}, {"ga", 504, 1, 0}, {"ga", 998, 166, 1}, {"ga", 999, 166, 0}, {"ga", 999, 999, 1}, {"ga", 0, 999, 0}};
        for (Object[] c : cases) {
            told(String.format(P + G + "sale sa ga pc pd pieces 1 price 10 day 500;resold %s pieces 1 price 7 day %d;window %d;margin 0;duty 0;", c[0], c[1], c[2]));
            boolean is = (Integer) c[3] == 1;
            String when = String.format("%s day %d, window %d", c[0], c[1], c[2]);
            due(when, x.by(0, 4), is ? 7 : -2 - 41);
            due(when + ": PRICE", x.base(0, 4), is ? 7 : -2 - 41);
        }
        told(P + G + "sale sa ga pc pd pieces 1 price 10 day 0;resold ga pieces 1 price 7 day 999;window 333;margin 0;duty 0;");
        due("999 DAYS later", x.by(0, 4), 7);
        x.rule(1, 332);
        due("996 DAYS are not enough", x.by(0, 4), -2 - 41);
        told(P + G + "sale sa ga pc pd pieces 1 price 10 day 500;resold gb pieces 99 price 5 day 500;resold ga pieces 1 price 7 day 590;margin 0;duty 0;");
        due("one row of its GOOD goes ahead of all SIMILAR ones", x.base(0, 4), 7);
        x.rule(1, 29);
        due("none of its GOOD in those DAYS", x.base(0, 4), 5);
        told(P + G + "sale sa ga pc pd pieces 1 price 10 day 500;");
        due("no rows", x.by(0, 4), -2 - 41);
    }

    private static void methodFourPrice() {
        Check.says("METHOD 4: The PRICE at which most PIECES of these were resold together (of like ones the least)");
        String sale = P + G + "sale sa ga pc pd pieces 1 price 10 day 5;margin 0;duty 0;";
        // Pairs of PIECES and PRICE, then the PRICE that is due.
        int[][] cases = {{5, 40, 5, 30, 30}, {5, 30, 5, 40, 30}, {5, 40, 4, 30, 40}, {4, 30, 5, 40, 40}, {3, 40, 5, 30, 2, 40, 30}, {3, 40, 5, 30, 3, 40, 40},
            {3, 40, 5, 50, 2, 40, 40}, {1, 9999, 1, 1, 1}, {9999, 8, 9999, 9, 9999, 9, 9}, {2, 7, 1, 6, 1, 6, 1, 5, 1, 5, 5}};
        for (int[] c : cases) {
            StringBuilder rows = new StringBuilder();
            for (int i = 0; i + 2 < c.length; i += 2) rows.append("resold ga pieces ").append(c[i]).append(" price ").append(c[i + 1]).append(" day 5;");
            told(sale + rows);
            due("of '" + rows + "'", x.base(0, 4), c[c.length - 1]);
        }
        StringBuilder rows = new StringBuilder();
        for (int i = 0; i < 12; i++) rows.append("resold ga pieces 9999 price ").append(i < 6 ? 50 : 49).append(" day 5;");
        told(sale + rows);
        due("twelve rows, six of each", x.base(0, 4), 49);
        told(sale + "resold ga pieces 9 price 50 day 4;resold ga pieces 1 price 60 day 5;resold gb pieces 9 price 70 day 5;");
        due("PIECES of other DAYS and GOODS don't count", x.base(0, 4), 60);
        told(sale + "resold ga pieces 9 price 50 day 4;resold ga pieces 1 price 50 day 5;resold ga pieces 2 price 60 day 5;resold gb pieces 9 price 50 day 5;");
        due("PIECES of other DAYS and GOODS don't count at one PRICE either", x.base(0, 4), 60);
        told(sale.replace("ga pc", "gb pc") + "resold ga pieces 2 price 50 day 5;resold ga pieces 2 price 60 day 5;");
        due("of like ones the least, of SIMILAR GOODS too", x.base(0, 4), 50);
    }

    private static void methodFourWorth() {
        Check.says("METHOD 4: its PIECES times that times (100 less margin) by (100 and duty), CUT");
        // PIECES, PRICE, margin, duty, what is due.
        long[][] cases = {{1, 1, 0, 0, 1}, {1, 1, 1, 0, 0}, {1, 1, 0, 1, 0}, {1, 10, 90, 0, 1}, {1, 9, 90, 0, 0}, {1, 199, 0, 99, 100}, {1, 198, 0, 99, 99},
            {9999, 9999, 0, 0, 99980001L}, {9999, 9999, 90, 99, 99980001L * 10 / 199}, {3, 7, 20, 10, 15}};
        for (long[] c : cases) {
            told(String.format(P + G + "sale sa ga pc pd pieces %d price 10 day 5 fee 9 packing 9 freight 9;resold ga pieces 1 price %d day 5;margin %d;duty %d;", c[0], c[1], c[2], c[3]));
            due(String.format("PIECES %d, PRICE %d, margin %d, duty %d", c[0], c[1], c[2], c[3]), x.by(0, 4), c[4]);
        }
    }

    // ---- METHODS 5, 6

    private static void methodFive() {
        Check.says("METHOD 5: if its GOOD is made (else why 51): PIECES times cost times (100 and profit) by 100, CUT, and packing, freight, its SHARES");
        // PIECES, cost, profit, what is due.
        long[][] cases = {{1, 1, 0, 1}, {1, 1, 99, 1}, {2, 1, 50, 3}, {1, 99, 1, 99}, {1, 100, 1, 101}, {9999, 9999, 99, 99980001L * 199 / 100}};
        for (long[] c : cases) {
            told(String.format(P + G + "made ga cost %d profit %d;sale sa ga pc pd pieces %d price 10 day 5 royalty 9 fee 9;sale sb gb pc pd pieces 1 price 10 day 5;", c[1], c[2], c[0]));
            due(String.format("PIECES %d, cost %d, profit %d", c[0], c[1], c[2]), x.by(0, 5), c[3]);
            due("a SIMILAR one is not made", x.by(1, 5), -2 - 51);
        }
        told(P + G + "assist mo worth 7 by 2;made ga cost 1 profit 0;sale sa ga pc pd pieces 1 price 1 day 5 packing 9999 freight 9999 uses mo;");
        due("packing, freight, a SHARE", x.by(0, 5), 1 + 9999 + 9999 + 3);
    }

    private static void methodSix() {
        Check.says("METHOD 6: of other SALES by which METHOD 1 doesn't fail, of GOODS with its group, of whatever land, DAY. None: why 61");
        Object[][] cases = {{"ga", "pc pd", 5, "", 1}, {"gb", "pc pd", 5, "", 1}, {"gc", "pc pd", 5, "", 1}, {"gd", "pc pd", 5, "", 0}, {"gc", "pc pd", 999, "", 1},
            {"gc", "pc pd", 0, "", 1}, {"gc", "pc pd", 5, " bound", 0}, {"gc", "pa pb", 5, "", 0}};
        for (Object[] c : cases) {
            told(String.format(P + G + "sale sa ga pc pd pieces 1 price 10 day 0 bound;sale sb %s %s pieces 1 price 20 day %d%s;window 1;", c[0], c[1], c[2], c[3]));
            boolean is = (Integer) c[4] == 1;
            String when = String.format("from '%s %s day %d%s'", c[0], c[1], c[2], c[3]);
            due(when, x.by(0, 6), is ? 20 : -2 - 61);
            due(when + ": from", x.base(0, 6), is ? 1 : -2 - 61);
        }
        told(P + G + "sale sa ga pc pd pieces 1 price 10 day 0;");
        due("not from itself", x.by(0, 6), -2 - 61);
        told(P + G + "sale sa ga pc pd pieces 10 price 10 day 0;sale sb ga pc pd pieces 10 price 50 day 0;sale sc ga pc pd pieces 5 price 20 day 0;band from 10 less 0;");
        due("of whatever LEVEL", x.base(1, 6), 0);
        x.price(0, 21);
        due("of whatever LEVEL, the other one", x.base(1, 6), 2);
    }

    // ---- WORTH, DUE

    private static void order() {
        Check.says("WORTH: by the first METHOD that doesn't fail, 1, 2, 3, 4, 5, 6 (TURNED: 1, 2, 3, 5, 4, 6)");
        String[] helps = {"", "sale sb ga pc pd pieces 1 price 20 day 5;", "sale sc gb pc pd pieces 1 price 30 day 5;", "resold ga pieces 1 price 40 day 5;",
            "made ga cost 50 profit 0;", "sale sd gc pc pd pieces 1 price 60 day 5;"};
        int[][] orders = {{1, 2, 3, 4, 5, 6}, {1, 2, 3, 5, 4, 6}};
        int[] whys = {11, 21, 31, 41, 51, 61};
        // Each choice of what METHODS have to go by, bit m - 1 for METHOD m.
        for (int bits = 0; bits < 64; bits++) {
            // METHOD 6 brings from what METHODS 2 and 3 bring from as well.
            boolean six = (bits & 0b100110) != 0;
            StringBuilder text = new StringBuilder(P + G + "margin 0;duty 0;sale sa ga pc pd pieces 1 price 10 day 5" + ((bits & 1) == 0 ? " bound;" : ";"));
            for (int m = 2; m <= 6; m++) if ((bits >> m - 1 & 1) != 0) text.append(helps[m - 1]);
            told(text.toString());
            for (int turned = 0; turned < 2; turned++) {
                int failed = 0;
                while (failed < 6 && !(orders[turned][failed] == 6 ? six : (bits >> orders[turned][failed] - 1 & 1) != 0)) failed++;
                String when = "METHODS " + Integer.toBinaryString(bits) + (turned == 1 ? " TURNED" : "");
                int method = failed == 6 ? -2 : orders[turned][failed];
                due(when + ": method", x.method(0), method);
                due(when + ": worth", x.worth(0), method == -2 ? -2 : 10 * method);
                due(when + ": the other way", x.turned(0), otherWay(bits, six, 1 - turned));
                due(when + ": due", x.due(0), method == -2 ? -2 : 0);
                due(when + ": how many failed", x.why(0, -1), failed);
                for (int k = 0; k < failed; k++) due(when + ": why(0, " + k + ")", x.why(0, k), whys[orders[turned][k] - 1]);
                due(when + ": no more", x.why(0, failed), -2);
                for (int m = 0; m <= 6; m++) due(when + ": all(" + m + ")", x.all(m) & 1, m == Math.max(0, method) ? 1 : 0);
                x.turn();
            }
        }
    }

    private static long otherWay(int bits, boolean six, int turned) {
        for (int m : turned == 1 ? new int[] {1, 2, 3, 5, 4} : new int[] {1, 2, 3, 4, 5}) if ((bits >> m - 1 & 1) != 0) return 10 * m;
        return six ? 60 : -2;
    }

    private static void dues() {
        Check.says("DUE: of that duty by 100, CUT");
        // WORTH, duty, DUE.
        int[][] cases = {{1, 99, 0}, {2, 99, 1}, {9, 10, 0}, {10, 10, 1}, {19, 10, 1}, {99, 1, 0}, {100, 1, 1}, {9999, 0, 0}, {9999, 99, 9899}, {200, 99, 198}};
        for (int[] c : cases) {
            told(String.format(P + G + "sale sa ga pc pd pieces 1 price %d day 5;sale sb gd pc pd pieces 1 price 1 day 5 bound;duty %d;", c[0], c[1]));
            due("WORTH " + c[0] + ", duty " + c[1], x.due(0), c[2]);
            due("dues(), another one fails", x.dues(), c[2]);
            due("all fail: -2", x.due(1), -2);
        }
        told(P + G + "sale sa ga pc pd pieces 1 price 1 day 5 bound;resold ga pieces 1 price 1 day 5;");
        due("a WORTH of 0", x.worth(0), 0);
        due("DUE of that", x.due(0), 0);
        due("turned of that", x.turned(0), 0);
    }
}
