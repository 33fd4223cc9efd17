/** Each promise of the document by itself, with answers counted by hand: what is ordinary, the edges, what is wrong. */
public final class PromisesTest {
    private static final int LOW = Integer.MIN_VALUE;
    private static final int HIGH = Integer.MAX_VALUE;

    private static final String PEOPLE = "party pa;party pb;party pc;party pd;kin pa pb;";
    private static final String GOODS = "good ga group 1 land 2;good gb group 1 land 2;good gc group 1 land 3;good gd group 2 land 2;";

    private static WorthLadder x;

    public static void main(String[] args) {
        promise1();
        promise2();
        promise3();
        promise4();
        promise5();
        promises6to10();
        promises11and12();
        promise13();
        promises14and15();
        promises16to18();
        promise19();
        promise20();
        promise21();
        promise22();
        promise23();
        promise24();
        promises25and26();
        promise27();
        promise28();
        promise29();
        promise30();
        promise31();
        promise32();
        promise33();
        promise34();
        promise35();
        promise36();
        promise37();
        promise38();
        Check.finish();
    }

    private static void due(String call, long got, long want) { Check.due(call, got, want); }

    private static void due(String call, boolean got, boolean want) { Check.due(call, got, want); }

    private static void told(String text) { x = Check.told(text); }

    /** The 14 numbers of count(), in one row. */
    private static void counts(String when, int... want) {
        for (int i = 0; i < want.length; i++) due(when + ": count(" + i + ")", x.count(i), want[i]);
    }

    // ---- 1: A new object

    private static void promise1() {
        x = new WorthLadder();
        counts("new", 0, 0, 0, 0, 0, 0, 5, 30, 20, 10, 0, 0, 0, 0);
        due("new: NONE", WorthLadder.NONE, -1);
        due("new: sale(0, 0)", Check.sale(x, 0, 0), Check.THROWN);
        due("new: kin(0, 0)", x.kin(0, 0), -1);
        due("new: dues()", x.dues(), 0);
        due("new: report(-1)", x.report(-1), 0);
        due("new: report(0)", x.report(0), -2);
        due("new: undo()", x.undo(), -1);
        due("new: keep(0, back)", x.keep(0, true), false);
        due("new: keep(1, back)", x.keep(1, true), false);
        due("new: rule(0, 5) is so", x.rule(0, 5), -1);
        due("new: rule(0, 6)", x.rule(0, 6), 5);
    }

    // ---- 2: feed

    private static void promise2() {
        x = new WorthLadder();
        int blank = 0x20202020;
        due("feed: the first", x.feed(0x20202041, blank, blank, blank, blank), 20);
        due("feed: the highest byte comes first", x.text(20), -2 - (8 * 3 + 1));
        x.feed(blank, blank, blank, blank, 0x41202020);
        due("feed: the numbers stand in order", x.text(20), -2 - (8 * 16 + 1));
        x.feed(0xff202020, blank, blank, blank, blank);
        due("feed: a number below 0 has its bytes too", x.text(20), -2 - 1);
        for (int i = 1; i <= 45; i++) due("feed: " + i, x.feed(blank, blank, blank, blank, blank), 20 * i);
        due("feed: 900 are the most", x.feed(0x41414141, 0, 0, 0, 0), -1);
        due("feed: none came", x.count(12), 900);
        due("feed: text(901)", x.text(901), -1);
        due("feed: all 900 are blanks", x.text(900), 0);
        due("feed: behind text() it begins anew", x.feed(0x41202020, blank, blank, blank, blank), 20);
        due("feed: at the front", x.text(20), -2 - 1);
    }

    // ---- 3: text (its FAULTS stand in FaultsTest)

    private static void promise3() {
        x = new WorthLadder();
        Check.lay(x, "party pa;party pb;");
        due("text: tape", x.count(12), 20);
        due("text(21)", x.text(21), -1);
        due("text(-1)", x.text(-1), -1);
        due("text(LOW)", x.text(LOW), -1);
        due("text(HIGH)", x.text(HIGH), -1);
        due("text: THE TAPE stays", x.count(12), 20);
        due("text: PARTIES stay", x.count(0), 0);
        due("text: the first 9 bytes", x.text(9), 1);
        due("text: one PARTY", x.count(0), 1);
        due("text: THE TAPE is empty", x.count(12), 0);
        due("text: blanks are no LINE", Check.tell(x, " \n  "), 0);
        due("text: told anew, PARTIES are gone", x.count(0), 0);

        told("party pa;party pb;near 7;window 40;margin 1;duty 2;");
        x.turn();
        x.rule(0, 9);
        x.relate(0, 1, true);
        x.keep(0, false);
        Check.lay(x, "party pq;party pa pb;");
        due("text: a FAULT", x.text(21), -2 - (8 * 18 + 1));
        counts("behind a FAULT", 2, 0, 0, 0, 0, 0, 9, 40, 1, 2, 1, 3, 0, 1);
        due("text: KEEPS stay behind a FAULT", x.keep(0, true), true);
        x.turn();
        x.keep(1, false);
        due("text: told anew", Check.tell(x, "party pa;"), 1);
        counts("told anew", 1, 0, 0, 0, 0, 0, 5, 30, 20, 10, 0, 0, 0, 0);
        due("text: nothing is taken back", x.undo(), -1);
        due("text: KEEP 0 is empty", x.keep(0, true), false);
        due("text: KEEP 1 is empty", x.keep(1, true), false);
        due("text: an empty one", x.text(0), 0);
        due("text: nothing is told by it", x.count(0), 0);

        String world = "party pa;party pb;good ga group 1 land 1;assist mo worth 9 by 9;made ga cost 5 profit 5;near 9;"
            + "sale sa ga pa pb pieces 1 price 1 day 1 bound royalty 3 fee 4 packing 5 freight 6 uses mo;";
        told(world);
        due("text: the same once more", Check.tell(x, world), 7);
        due("text: NAMES begin anew", Check.tell(x, "party pa;party pb;good ga group 1 land 1;assist mo worth 9 first;sale sa ga pa pb pieces 1 price 1 day 1;"), 5);
        due("text: what was made is forgotten", x.by(0, 5), -53);
        for (int k = 6; k <= 12; k++) due("text: EXTRAS are forgotten, " + k, Check.sale(x, 0, k), 0);
        due("text: by is forgotten", x.assist(0, 1), 0);
        due("text: made without profit", Check.tell(x, "party pa;party pb;good ga group 1 land 1;made ga cost 5 profit 0;sale sa ga pa pb pieces 1 price 1 day 1;"), 5);
        due("text: the profit is forgotten", x.by(0, 5), 5);

        x = new WorthLadder();
        Check.lay(x, "party pab;");
        due("text: it ends in a WORD", x.text(7), -2 - (8 * 7 + 1));
        Check.lay(x, "near 55;");
        due("text: it ends in a NUMBER", x.text(6), -2 - (8 * 6 + 1));
        fullText();
    }

    /** As many of each sort as there may be, and no NAME among them is lost. */
    private static void fullText() {
        StringBuilder text = new StringBuilder();
        for (char c = 'a'; c <= 'f'; c++) text.append("party p").append(c).append(";");
        for (char c = 'a'; c <= 'f'; c++) text.append("good g").append(c).append(" group 1 land 1;");
        for (char c = 'a'; c <= 'd'; c++) text.append("assist m").append(c).append(" worth 9 first;");
        for (char c = 'a'; c <= 'j'; c++) text.append("sale s").append(c).append(" gf pe pf pieces 1 price 9 day 1;");
        String names = "pa pb pc pd pe pf ga gb gc gd ge gf ma mb mc md sa sb sc sd se sf sg sh si sj";
        told(text.toString());
        counts("full", 6, 6, 4, 10);
        for (String name : names.split(" ")) {
            // No room for more of a sort: the NAME is looked up as a GOOD that must be told.
            String line = "made " + name;
            int place = text.length() + 5;
            int want = name.charAt(0) == 'g' ? -2 - (8 * (place + 2) + 1) : -2 - (8 * place + 3);
            due("text: full, then " + line, Check.tell(x, text + line), want);
        }
        String fewer = text.toString().replace("party pf;", "").replace("pe pf", "pd pe");
        for (String name : names.replace("pf ", "").split(" ")) {
            due("text: full, then party " + name, Check.tell(x, fewer + "party " + name + ";"), -2 - (8 * (fewer.length() + 6) + 2));
        }
        due("text: full, then party pf", Check.tell(x, fewer + "party pf;"), 26);
        String later = text.toString().replace("good gf group 1 land 1;", "").replace(" gf ", " ge ") + "good gf group 1 land 1;made gf cost 3 profit 0;";
        due("text: full, the last NAME is known", Check.tell(x, later), 27);
        fullCalls();
    }

    /** Where every row is full, an index that goes too far would show. */
    private static void fullCalls() {
        for (int r = 0; r < 12; r++) due("full: resell", x.resell(4, 1, 11, 1), r);
        due("full: dues()", x.dues(), 0);
        due("full: report(-1)", x.report(-1), 10 * "sa by 1 worth 9 ; ".length());
        for (int m = 0; m <= 6; m++) due("full: all(" + m + ")", x.all(m), m == 1 ? 1023 : 0);
        for (int s = 0; s < 10; s++) {
            due("full: rests", x.rests(s), 0);
            due("full: test(-1)", x.test(s, -1), 10);
            due("full: test(9)", x.test(s, 9), 8);
            due("full: prices", x.prices(s, 0), 2);
            due("full: needs", x.needs(s), 0);
            for (int m = 1; m <= 6; m++) due("full: by " + m, x.by(s, m), new long[] {0, 9, 9, -33, 8, -53, 9}[m]);
        }
        for (int a = 0; a < 4; a++) due("full: rest", x.rest(a), 9);
        for (int p = 0; p < 6; p++) for (int o = 0; o < 6; o++) due("full: kin", x.kin(p, o), p == o ? 1 : 0);
        x.keep(0, false);
        due("full: kept", x.keep(0, true), true);
    }

    // ---- 4: count

    private static void promise4() {
        told(PEOPLE + "kin pc pb;" + GOODS + "assist mo worth 1 first;sale sa ga pa pb pieces 1 price 1 day 1;sale sb ga pa pb pieces 1 price 1 day 1;"
            + "resold ga pieces 1 price 1 day 1;resold ga pieces 1 price 1 day 1;resold ga pieces 1 price 1 day 1;"
            + "band from 2 less 3;band from 4 less 3;near 6;window 7;margin 8;duty 9;");
        counts("count", 4, 4, 1, 2, 3, 2, 6, 7, 8, 9, 0, 0, 0, 2);
        x.turn();
        x.resell(0, 1, 1, 1);
        x.relate(0, 3, true);
        x.feed(0, 0, 0, 0, 0);
        counts("count behind ACTS", 4, 4, 1, 2, 4, 2, 6, 7, 8, 9, 1, 3, 20, 3);
        due("count(-1)", x.count(-1), -1);
        due("count(14)", x.count(14), -1);
        due("count(LOW)", x.count(LOW), -1);
        due("count(HIGH)", x.count(HIGH), -1);
    }

    // ---- 5: sale

    private static void promise5() {
        told(PEOPLE + GOODS + "assist mo worth 5 first;assist mp worth 6 first;assist mq worth 7 first;"
            + "sale sa gb pc pd pieces 11 price 12 day 13;"
            + "sale sb gd pd pa pieces 9999 price 9998 day 999 bound royalty 99 fee 9997 packing 9996 freight 9995 uses mq uses mo;"
            + "band from 11 less 5;band from 12 less 6;band from 9999 less 7;");
        int[] first = {1, 2, 3, 11, 12, 13, 0, 0, 0, 0, 0, 0, 1};
        int[] second = {3, 3, 0, 9999, 9998, 999, 1, 99, 9997, 9996, 9995, 5, 3};
        for (int k = 0; k <= 12; k++) {
            due("sale(0, " + k + ")", Check.sale(x, 0, k), first[k]);
            due("sale(1, " + k + ")", Check.sale(x, 1, k), second[k]);
        }
        for (int k : new int[] {-1, 13, LOW, HIGH}) due("sale(0, " + k + ")", Check.sale(x, 0, k), Check.THROWN);
        for (int s : new int[] {-1, 2, 10, LOW, HIGH}) due("sale(" + s + ", 0)", Check.sale(x, s, 0), Check.THROWN);
        told(PEOPLE + GOODS + "sale sa gb pc pd pieces 10 price 12 day 13;band from 11 less 5;");
        due("sale: LEVEL ahead of all bands", Check.sale(x, 0, 12), 0);
    }

    // ---- 6: resold, 7: kin, 8: like, 9: band, 10: assist

    private static void promises6to10() {
        told("party pa;party pb;party pc;party pd;party pe;party pf;kin pa pb;kin pc pb;kin pe pd;" + GOODS
            + "assist mo worth 9999 by 9998;assist de worth 1 first;"
            + "resold gb pieces 2 price 3 day 4;resold ga pieces 9999 price 9998 day 999;band from 2 less 0;band from 9999 less 90;");
        int[][] rows = {{1, 2, 3, 4}, {0, 9999, 9998, 999}};
        for (int r = 0; r < 2; r++) for (int k = 0; k < 4; k++) due("resold(" + r + ", " + k + ")", x.resold(r, k), rows[r][k]);
        int[][] kin = {{1, 1, 1, 0, 0, 0}, {1, 1, 1, 0, 0, 0}, {1, 1, 1, 0, 0, 0}, {0, 0, 0, 1, 1, 0}, {0, 0, 0, 1, 1, 0}, {0, 0, 0, 0, 0, 1}};
        for (int a = 0; a < 6; a++) for (int b = 0; b < 6; b++) due("kin(" + a + ", " + b + ")", x.kin(a, b), kin[a][b]);
        int[][] like = {{1, 2, 0, 0}, {2, 1, 0, 0}, {0, 0, 1, 0}, {0, 0, 0, 1}};
        for (int a = 0; a < 4; a++) for (int b = 0; b < 4; b++) due("like(" + a + ", " + b + ")", x.like(a, b), like[a][b]);
        int[][] bands = {{2, 0}, {9999, 90}};
        int[][] assists = {{9999, 9998}, {1, 0}};
        for (int i = 0; i < 2; i++) for (int k = 0; k < 2; k++) {
            due("band(" + i + ", " + k + ")", x.band(i, k), bands[i][k]);
            due("assist(" + i + ", " + k + ")", x.assist(i, k), assists[i][k]);
        }
        for (int v : new int[] {-1, 12, LOW, HIGH}) {
            due("resold(" + v + ", 0)", x.resold(v, 0), -1);
            due("resold(0, " + v + ")", x.resold(0, v), -1);
            due("kin(" + v + ", 0)", x.kin(v, 0), -1);
            due("kin(0, " + v + ")", x.kin(0, v), -1);
            due("kin(" + v + ", " + v + ")", x.kin(v, v), -1);
            due("like(" + v + ", 0)", x.like(v, 0), -1);
            due("like(0, " + v + ")", x.like(0, v), -1);
            due("like(" + v + ", " + v + ")", x.like(v, v), -1);
            due("band(" + v + ", 0)", x.band(v, 0), -1);
            due("band(0, " + v + ")", x.band(0, v), -1);
            due("assist(" + v + ", 0)", x.assist(v, 0), -1);
            due("assist(0, " + v + ")", x.assist(0, v), -1);
        }
        due("resold(2, 0)", x.resold(2, 0), -1);
        due("resold(0, 4)", x.resold(0, 4), -1);
        due("kin(0, 6)", x.kin(0, 6), -1);
        due("like(4, 0)", x.like(4, 0), -1);
        due("band(2, 0)", x.band(2, 0), -1);
        due("band(0, 2)", x.band(0, 2), -1);
        due("assist(2, 0)", x.assist(2, 0), -1);
        due("assist(0, 2)", x.assist(0, 2), -1);
    }

    // ---- 11: share, 12: rest

    private static void promises11and12() {
        told(PEOPLE + GOODS + "assist mo worth 100 by 7;assist de worth 30 first;assist no worth 5 by 9999;assist un worth 9 first;"
            + "sale sa ga pa pc pieces 3 price 1 day 9 uses mo uses de;"
            + "sale sb ga pa pc pieces 2 price 1 day 9 uses mo;"
            + "sale sc ga pa pc pieces 1 price 1 day 8 uses mo uses de uses no;"
            + "sale sd ga pa pc pieces 8 price 1 day 10 uses mo;"
            + "sale se ga pa pc pieces 8 price 1 day 11 uses mo;");
        // By day, then by number: sc has 1, sa 3, sb 2, sd the 1 that is left of 7, se none.
        int[] mo = {42, 28, 14, 14, 0};
        int[] de = {0, 0, 30, 0, 0};
        for (int s = 0; s < 5; s++) {
            due("share(0, " + s + ")", x.share(0, s), mo[s]);
            due("share(1, " + s + ")", x.share(1, s), de[s]);
            due("share(2, " + s + ")", x.share(2, s), 0);
            due("share(3, " + s + ")", x.share(3, s), 0);
        }
        due("rest(0): what was cut", x.rest(0), 2);
        due("rest(1)", x.rest(1), 0);
        due("rest(2): all", x.rest(2), 5);
        due("rest(3): no SALE uses it", x.rest(3), 9);
        x.spread(1, 10);
        due("share: no more the first one's alone", x.share(1, 2), 3);
        x.spread(0, 4);
        due("rest: it changes with what is told", x.rest(0), 0);
        due("share: none is left for sb", x.share(0, 1), 0);
        x.spread(0, 3);
        due("share: the lower number first on one DAY", x.share(0, 0), 66);
        due("rest: behind that", x.rest(0), 1);
        x.spread(0, 0);
        due("share: all is the first one's now", x.share(0, 2), 100);
        due("share: nothing is another one's", x.share(0, 0), 0);
        due("rest: nothing", x.rest(0), 0);
        for (int v : new int[] {-1, 5, LOW, HIGH}) {
            due("share(" + v + ", 0)", x.share(v, 0), -1);
            due("share(0, " + v + ")", x.share(0, v), -1);
            due("rest(" + v + ")", x.rest(v), -1);
        }
        due("share(4, 0)", x.share(4, 0), -1);
        due("rest(4)", x.rest(4), -1);
    }

    // ---- 13: own

    private static void promise13() {
        told(PEOPLE + GOODS + "assist mo worth 100 by 50;assist de worth 30 first;"
            + "sale sa ga pa pc pieces 7 price 13 day 5 royalty 5 fee 20 packing 300 freight 4000 uses mo uses de;"
            + "sale sb ga pa pb pieces 9999 price 9999 day 8 royalty 99 fee 9999 packing 9999 freight 9999 bound;"
            + "sale sc ga pa pb pieces 1 price 1 day 8 royalty 99;");
        // 91, of it 4 (4.55), 20, 300, 4000, 14 and 30.
        due("own(0)", x.own(0), 4459);
        due("own(1)", x.own(1), 99980001L + 98980200L + 29997L);
        due("own(2)", x.own(2), 1);
        for (int v : new int[] {-1, 3, LOW, HIGH}) due("own(" + v + ")", x.own(v), -1);
    }

    // ---- 14: by, 15: base

    private static void promises14and15() {
        methodOne();
        methodsTwoAndThree();
        methodFour();
        methodFive();
        methodSix();
    }

    private static void methodOne() {
        told(PEOPLE + GOODS + "sale sa ga pa pb pieces 10 price 100 day 5;sale sb ga pc pd pieces 10 price 95 day 35 bound;");
        due("by 1: no TEST", x.by(0, 1), -2 - 12);
        due("by 1: bound", x.by(1, 1), -2 - 11);
        x.bind(1, false);
        due("by 1: none is near", x.by(0, 1), -2 - 13);
        x.price(1, 96);
        due("by 1: near, 40 by 960", x.by(0, 1), 1000);
        x.rule(1, 29);
        due("by 1: 30 DAYS are out of a window of 29", x.by(0, 1), -2 - 12);
        x.bind(0, true);
        due("by 1: bound comes ahead of KIN", x.by(0, 1), -2 - 11);
        for (int v : new int[] {-1, 0, 7, LOW, HIGH}) {
            due("by(0, " + v + ")", x.by(0, v), -1);
            due("base(0, " + v + ")", x.base(0, v), -1);
        }
        for (int v : new int[] {-1, 2, LOW, HIGH}) {
            due("by(" + v + ", 1)", x.by(v, 1), -1);
            due("base(" + v + ", 2)", x.base(v, 2), -1);
        }
        due("base: METHOD 1", x.base(0, 1), -1);
        due("base: METHOD 5", x.base(0, 5), -1);
    }

    private static void methodsTwoAndThree() {
        String sales = "sale sa ga pc pd pieces 10 price 50 day 40 bound;"
            + "sale sb %1$s pc pd pieces 30 price 10 day 40;"
            + "sale sc %1$s pc pd pieces 19 price 60 day 70;"
            + "sale sd %1$s pc pd pieces 18 price 60 day 10;"
            + "sale se %1$s pc pd pieces 5 price 1 day 71;"
            + "sale sf %1$s pa pb pieces 5 price 2 day 40;"
            + "sale sg %1$s pc pd pieces 5 price 3 day 40 bound;"
            + "sale sh gd pc pd pieces 5 price 4 day 40;band from 20 less 25;";
        for (int method = 2; method <= 3; method++) {
            told(PEOPLE + GOODS + String.format(sales, method == 2 ? "ga" : "gb"));
            String call = "by " + method + ": ";
            // sb is of another LEVEL; se too late; sf KIN that don't pass; sg bound; of sc and sd the first.
            due(call + "of the same LEVEL", x.by(0, method), 600);
            due(call + "from", x.base(0, method), 2);
            due(call + "none for the other METHOD", x.by(0, 5 - method), -2 - (method == 2 ? 31 : 21));
            due(call + "none from", x.base(0, 5 - method), -2 - (method == 2 ? 31 : 21));
            x.price(3, 59);
            due(call + "the least", x.by(0, method), 590);
            due(call + "the least from", x.base(0, method), 3);
            x.bind(3, true);
            x.bind(2, true);
            // 300 times 10 times 100 by 30 times 75.
            due(call + "of another LEVEL, if there are no others", x.by(0, method), 133);
            due(call + "of another LEVEL from", x.base(0, method), 1);
            x.rule(0, 50);
            x.rule(1, 29);
            x.bind(1, true);
            due(call + "all fail", x.by(0, method), -2 - (method == 2 ? 21 : 31));
        }
    }

    private static void methodFour() {
        String sale = PEOPLE + GOODS + "sale sa ga pc pd pieces 7 price 50 day 100;window 10;";
        told(sale + "resold gc pieces 99 price 9 day 100;resold ga pieces 99 price 9 day 99;resold ga pieces 99 price 9 day 131;resold gb pieces 4 price 30 day 101;");
        due("by 4: of SIMILAR GOODS", x.by(0, 4), 7 * 30 * 80 / 110);
        due("by 4: PRICE", x.base(0, 4), 30);
        told(sale + "resold gb pieces 99 price 9 day 101;resold ga pieces 5 price 40 day 100;resold ga pieces 3 price 44 day 130;resold ga pieces 2 price 44 day 110;");
        due("by 4: of like ones the least", x.base(0, 4), 40);
        due("by 4: its own GOOD first", x.by(0, 4), 7 * 40 * 80 / 110);
        x.resell(0, 4, 39, 105);
        due("by 4: fewer PIECES for less", x.base(0, 4), 40);
        x.resell(0, 1, 44, 105);
        due("by 4: most PIECES together", x.base(0, 4), 44);
        x.rule(2, 90);
        x.rule(3, 99);
        due("by 4: margin, duty", x.by(0, 4), 7 * 44 * 10 / 199);
        x.rule(1, 9);
        due("by 4: the window is counted 3 times", x.base(0, 4), 40);
        told(sale + "resold gd pieces 99 price 9 day 100;resold gc pieces 1 price 9 day 100;");
        due("by 4: none", x.by(0, 4), -2 - 41);
        due("by 4: no PRICE", x.base(0, 4), -2 - 41);
    }

    private static void methodFive() {
        told(PEOPLE + GOODS + "assist mo worth 50 by 10;made ga cost 33 profit 7;sale sa ga pa pb pieces 3 price 9 day 1 royalty 9 fee 500 packing 20 freight 7 uses mo bound;"
            + "sale sb gb pa pb pieces 3 price 9 day 1;");
        // 99 times 107 by 100 is 105; packing, freight, a SHARE of 15; no fee, no royalty.
        due("by 5", x.by(0, 5), 105 + 27 + 15);
        due("by 5: not made", x.by(1, 5), -2 - 51);
    }

    private static void methodSix() {
        told(PEOPLE + GOODS + "sale sa gd pc pd pieces 10 price 1 day 1;sale sb gc pc pd pieces 10 price 30 day 1;sale sc ga pc pd pieces 25 price 24 day 999;"
            + "sale sd ga pc pd pieces 10 price 30 day 500 bound;sale se gb pc pd pieces 10 price 30 day 998;band from 20 less 20;");
        // From sb 300; from sc 600 times 10 times 100 by 25 times 80; from se 300.
        due("by 6", x.by(3, 6), 300);
        due("by 6: of like ones from the first", x.base(3, 6), 1);
        due("by 6: another group", x.by(0, 6), -2 - 61);
        due("by 6: nothing from", x.base(0, 6), -2 - 61);
        x.price(2, 23);
        due("by 6: another LEVEL is as good", x.by(3, 6), 287);
        due("by 6: from", x.base(3, 6), 2);
        x.bind(1, true);
        x.bind(2, true);
        due("by 6: not from itself, not from bound ones", x.by(4, 6), -2 - 61);
    }

    // ---- 16: worth, 17: method, 18: why

    /** sa falls from METHOD to METHOD as what it would rest on is taken away. */
    private static final String FALL = PEOPLE + GOODS + "sale sa ga pc pd pieces 10 price 10 day 5;"
        + "sale sb ga pc pd pieces 10 price 20 day 5;sale sc gb pc pd pieces 10 price 30 day 5;sale sd gc pc pd pieces 10 price 60 day 5;"
        + "sale se gd pc pd pieces 10 price 1 day 5 bound;resold ga pieces 1 price 55 day 35;made ga cost 50 profit 0;";

    private static void steps(String when, long worth, int method, int... whys) {
        due(when + ": worth", x.worth(0), worth);
        due(when + ": method", x.method(0), method);
        due(when + ": how many failed", x.why(0, -1), whys.length);
        for (int k = 0; k < whys.length; k++) due(when + ": why(0, " + k + ")", x.why(0, k), whys[k]);
        due(when + ": no more", x.why(0, whys.length), -2);
        due(when + ": none so high", x.why(0, HIGH), -2);
    }

    private static void promises16to18() {
        told(FALL);
        steps("by its price", 100, 1);
        x.bind(0, true);
        steps("by like goods", 200, 2, 11);
        x.bind(1, true);
        steps("by similar ones", 300, 3, 11, 21);
        x.bind(2, true);
        steps("by what was resold", 400, 4, 11, 21, 31);
        x.turn();
        steps("turned", 500, 5, 11, 21, 31);
        x.rule(1, 9);
        steps("turned, nothing resold", 500, 5, 11, 21, 31);
        x.turn();
        steps("by what making costs", 500, 5, 11, 21, 31, 41);
        told(FALL.replace("made ga", "made gd").replace("day 35", "day 4"));
        x.bind(0, true);
        x.bind(1, true);
        x.bind(2, true);
        steps("by whatever there is", 600, 6, 11, 21, 31, 41, 51);
        x.turn();
        steps("turned, whatever there is", 600, 6, 11, 21, 31, 51, 41);
        x.bind(3, true);
        steps("turned, all fail", -2, -2, 11, 21, 31, 51, 41, 61);
        x.turn();
        steps("all fail", -2, -2, 11, 21, 31, 41, 51, 61);
        for (int v : new int[] {-1, 5, LOW, HIGH}) {
            due("worth(" + v + ")", x.worth(v), -1);
            due("method(" + v + ")", x.method(v), -1);
            due("why(" + v + ", -1)", x.why(v, -1), -1);
            due("why(" + v + ", 0)", x.why(v, 0), -1);
        }
        due("why(0, -2)", x.why(0, -2), -1);
        due("why(0, LOW)", x.why(0, LOW), -1);
        told(PEOPLE + GOODS + "sale sa ga pa pb pieces 1 price 1 day 5;");
        due("why: no TEST", x.why(0, 0), 12);
        x.resell(0, 1, 9999, 5);
        due("why: none is near", x.why(0, 0), 13);
        told(PEOPLE + GOODS + "sale sa ga pa pb pieces 1 price 1 day 5 bound;resold ga pieces 1 price 1 day 5;");
        due("worth: 0 is a WORTH", x.worth(0), 0);
        due("worth: 0 by METHOD 4", x.method(0), 4);
    }

    // ---- 19: test

    private static void tests(String when, int sale, long... want) {
        due(when + ": how many", x.test(sale, -1), want.length);
        for (int k = 0; k < want.length; k++) due(when + ": test(" + sale + ", " + k + ")", x.test(sale, k), want[k]);
        due(when + ": no more", x.test(sale, want.length), -2);
        due(when + ": none so high", x.test(sale, HIGH), -2);
    }

    private static void promise19() {
        told(PEOPLE + GOODS + "sale sa ga pa pb pieces 10 price 10 day 100;"
            + "sale sb gb pc pd pieces 20 price 11 day 130;sale sc ga pc pd pieces 7 price 12 day 70 fee 1;sale sd ga pc pd pieces 1 price 13 day 69;"
            + "sale se ga pa pb pieces 1 price 14 day 100;sale sf ga pc pd pieces 1 price 15 day 100 bound;sale sg gc pc pd pieces 1 price 16 day 100;"
            + "resold gb pieces 1 price 17 day 190;made ga cost 18 profit 50;band from 8 less 10;band from 20 less 20;");
        // sb: 220 * 10 * 90 by 20 * 80; sc: 85 * 10 * 90 by 7 * 100; then 170 * 80 by 110; then 180 * 150 by 100.
        tests("among KIN", 0, 123, 109, 123, 270);
        // sc is 60 DAYS off.
        tests("among no KIN", 1, 20 * 17 * 80 / 110);
        x.bind(0, true);
        tests("bound", 0, 123, 109, 123, 270);
        x.turn();
        tests("turned", 0, 123, 109, 123, 270);
        tests("none", 6);
        told(PEOPLE + GOODS + "sale sa ga pc pd pieces 1 price 10 day 5;sale sb ga pc pd pieces 1 price 11 day 5;sale sc ga pc pd pieces 1 price 12 day 5;"
            + "sale sd ga pc pd pieces 1 price 13 day 5;sale se ga pc pd pieces 1 price 14 day 5;sale sf ga pc pd pieces 1 price 15 day 5;"
            + "sale sg ga pc pd pieces 1 price 16 day 5;sale sh ga pc pd pieces 1 price 17 day 5;sale si ga pc pd pieces 1 price 18 day 5;"
            + "sale sj ga pc pd pieces 1 price 19 day 5;resold ga pieces 1 price 22 day 5;made ga cost 20 profit 0;");
        tests("as many as there may be", 1, 10, 12, 13, 14, 15, 16, 17, 18, 19, 16, 20);
        x.rule(0, 0);
        x.price(1, 20);
        due("passes: by the last TEST", x.passes(1), 1);
        prices("as many as there may be", 1, 10, 10, 20);
        due("needs: by the last TEST", x.needs(1), 0);
        told(PEOPLE + GOODS + "sale sa gc pc pd pieces 1 price 1 day 1;");
        for (int v : new int[] {-1, 1, LOW, HIGH}) due("test(" + v + ", -1)", x.test(v, -1), -1);
        due("test(0, -2)", x.test(0, -2), -1);
        due("test(0, LOW)", x.test(0, LOW), -1);
    }

    // ---- 20: passes

    private static void promise20() {
        told(PEOPLE + GOODS + "sale sa ga pc pd pieces 1 price 105 day 5;sale sb ga pc pd pieces 1 price 100 day 5;");
        due("passes: KIN or not, just near", x.passes(0), 1);
        due("passes: 5 of 105 is no more than 5 by 100", x.passes(1), 1);
        x.price(0, 106);
        due("passes: too dear", x.passes(0), 0);
        due("passes: 6 of 106 is too much", x.passes(1), 0);
        x.price(0, 95);
        due("passes: just near from below", x.passes(0), 1);
        x.price(0, 94);
        due("passes: too cheap", x.passes(0), 0);
        x.rule(0, 6);
        due("passes: near of 6", x.passes(0), 1);
        x.bind(0, true);
        due("passes: bound or not", x.passes(0), 1);
        due("passes: no TEST", x.passes(1), 0);
        for (int v : new int[] {-1, 2, LOW, HIGH}) due("passes(" + v + ")", x.passes(v), -1);
    }

    // ---- 21: prices

    private static void prices(String when, int sale, int count, int least, int greatest) {
        due(when + ": how many", x.prices(sale, 0), count);
        due(when + ": the least", x.prices(sale, 1), least);
        due(when + ": the greatest", x.prices(sale, 2), greatest);
    }

    private static void promise21() {
        told(PEOPLE + GOODS + "sale sa ga pa pb pieces 3 price 1 day 5 royalty 10 fee 6;sale sb ga pc pd pieces 3 price 100 day 5;sale sc ga pc pd pieces 3 price 104 day 5;"
            + "sale sd ga pc pd pieces 3 price 200 day 5;sale se gd pc pd pieces 1 price 1 day 1;");
        // TESTS 300, 312, 600: OWN of 285 to 315, 297 to 327, 570 to 630; OWN is 3.3 times the PRICE, CUT, and 6.
        // 85 makes 286, 84 283; 97 makes 326, 98 329; 171 makes 570, 170 567; 189 makes 629, 190 633.
        prices("two spans", 0, 13 + 19, 85, 189);
        x.bind(3, true);
        prices("one span", 0, 13, 85, 97);
        x.rule(0, 0);
        // OWN of 300 or 312: 89 makes 299, 90 303; 92 makes 309, 93 312.
        prices("one PRICE", 0, 1, 93, 93);
        x.bind(2, true);
        prices("none by the steps of OWN", 0, 0, -1, -1);
        prices("no TEST", 4, 0, -1, -1);
        x.price(0, 9999);
        x.bind(2, false);
        prices("whatever the PRICE is", 0, 1, 93, 93);
        told(PEOPLE + GOODS + "sale sa ga pa pb pieces 1 price 1 day 5;sale sb ga pc pd pieces 1 price 9999 day 5;sale sc ga pc pd pieces 1 price 1 day 5;near 50;");
        prices("up to 9999", 0, 5000 + 1, 1, 9999);
        told(PEOPLE + GOODS + "sale sa ga pa pb pieces 1 price 1 day 5 fee 5000;sale sb ga pc pd pieces 1 price 9999 day 5 fee 9999;");
        // 19998, less and more 999: OWN of 18999 is out of reach.
        prices("beyond 9999", 0, 0, -1, -1);
        for (int v : new int[] {-1, 3, LOW, HIGH}) due("prices(0, " + v + ")", x.prices(0, v), -2);
        for (int v : new int[] {-1, 2, LOW, HIGH}) due("prices(" + v + ", 0)", x.prices(v, 0), -2);
    }

    // ---- 22: needs

    private static void promise22() {
        told(PEOPLE + GOODS + "sale sa ga pa pb pieces 1 price 1000 day 5;sale sb ga pc pd pieces 1 price 1000 day 5;");
        due("needs: nothing", x.needs(0), 0);
        x.price(0, 1001);
        due("needs: rounded up", x.needs(0), 1);
        x.price(0, 1010);
        due("needs: just so", x.needs(0), 1);
        x.price(0, 1500);
        due("needs: the most", x.needs(0), 50);
        x.price(0, 500);
        due("needs: the most from below", x.needs(0), 50);
        x.price(0, 1501);
        due("needs: by none", x.needs(0), -2);
        x.resell(0, 1, 2000, 5);
        // The TEST 1454: 47 apart are 3.2 by 100.
        due("needs: the nearest TEST", x.needs(0), 4);
        due("needs: KIN or not", x.needs(1), 32);
        for (int v : new int[] {-1, 2, LOW, HIGH}) due("needs(" + v + ")", x.needs(v), -1);
        told(PEOPLE + GOODS + "sale sa ga pa pb pieces 1 price 100 day 5;sale sb ga pc pd pieces 1 price 99 day 5;");
        due("needs: 100 by 99", x.needs(0), 2);
        x.price(0, 1);
        x.price(1, 1);
        due("needs: a TEST of 1", x.needs(0), 0);
        told(PEOPLE + GOODS + "sale sa ga pa pb pieces 1 price 1 day 5;");
        due("needs: no TEST", x.needs(0), -2);
        x.resell(0, 1, 1, 5);
        due("needs: a TEST of 0", x.needs(0), -2);
    }

    // ---- 23: rests

    private static void promise23() {
        told(PEOPLE + GOODS + "assist mo worth 90 by 30;sale sa ga pc pd pieces 10 price 10 day 5 bound;sale sb ga pc pd pieces 10 price 20 day 5 uses mo;"
            + "sale sc ga pc pd pieces 10 price 30 day 5;sale sd ga pa pb pieces 10 price 30 day 4 uses mo;sale se ga pc pd pieces 30 price 30 day 3 uses mo bound;");
        // se has all of mo: sb is 200, sc 300. Without se sb is 230: sa would be that.
        due("rests: worth of sa", x.worth(0), 200);
        due("rests: on sb, on se by its SHARES", x.rests(0), 1 << 1 | 1 << 4);
        due("rests: sb by its own price on se", x.rests(1), 1 << 4);
        due("rests: sc on none", x.rests(2), 0);
        // sd is 300 and passes by sc alone; without sc it is worth 200 by sb; without se OWN is 330 and doesn't pass: 230.
        due("rests: sd", x.rests(3), 1 << 2 | 1 << 4);
        due("rests: WORTH is compared, not the METHOD", x.worth(3), 300);
        told(PEOPLE + GOODS + "sale sa ga pc pd pieces 10 price 10 day 5 bound;sale sb gc pc pd pieces 10 price 20 day 5;");
        due("rests: that it has one", x.rests(0), 2);
        x.bind(1, true);
        due("rests: it has none anyway", x.rests(0), 0);
        x.bind(1, false);
        x.resell(0, 1, 22, 5);
        due("rests: METHOD 4 rests on no SALE", x.rests(0), 0);
        told(PEOPLE + GOODS + "sale sa ga pc pd pieces 10 price 10 day 5 bound;sale sb ga pc pd pieces 10 price 20 day 5;sale sc ga pc pd pieces 10 price 20 day 5;");
        due("rests: two like ones", x.rests(0), 0);
        x.price(0, 15);
        x.bind(0, false);
        x.bind(2, true);
        due("rests: on the first SALE", x.rests(2), 1);
        for (int v : new int[] {-1, 3, LOW, HIGH}) due("rests(" + v + ")", x.rests(v), -1);
    }

    // ---- 24: turned

    private static void promise24() {
        told(FALL);
        due("turned: by its price anyway", x.turned(0), 100);
        x.bind(0, true);
        x.bind(1, true);
        x.bind(2, true);
        due("turned: METHOD 5 ahead of 4", x.turned(0), 500);
        due("turned: it stays as it is", x.worth(0), 400);
        x.turn();
        due("turned: the other way", x.turned(0), 400);
        due("turned: WORTH is that now", x.worth(0), 500);
        due("turned: all fail", x.turned(4), -2);
        for (int v : new int[] {-1, 5, LOW, HIGH}) due("turned(" + v + ")", x.turned(v), -1);
    }

    // ---- 25: due, 26: dues

    private static void promises25and26() {
        told(PEOPLE + GOODS + "sale sa ga pc pd pieces 1 price 199 day 5;sale sb ga pc pd pieces 1 price 59 day 500;sale sc gd pc pd pieces 1 price 1000 day 5 bound;");
        due("due(0): cut", x.due(0), 19);
        due("due(1)", x.due(1), 5);
        due("due(2): all fail", x.due(2), -2);
        due("dues(): each cut by itself", x.dues(), 24);
        x.price(1, 69);
        due("dues(): told anew", x.dues(), 25);
        x.undo();
        x.rule(3, 0);
        due("due(0): no duty", x.due(0), 0);
        due("dues(): no duty", x.dues(), 0);
        x.rule(3, 99);
        due("due(0): 99", x.due(0), 197);
        due("dues(): 99", x.dues(), 197 + 58);
        for (int v : new int[] {-1, 3, LOW, HIGH}) due("due(" + v + ")", x.due(v), -1);
    }

    // ---- 27: all

    private static void promise27() {
        told(FALL);
        int[] first = {1 << 4, 15, 0, 0, 0, 0, 0};
        for (int m = 0; m <= 6; m++) due("all(" + m + ")", x.all(m), first[m]);
        x.bind(0, true);
        x.bind(1, true);
        x.bind(3, true);
        // sa and sb by sc, which is SIMILAR; sd by METHOD 6.
        int[] second = {1 << 4, 1 << 2, 0, 3, 0, 0, 1 << 3};
        for (int m = 0; m <= 6; m++) due("all(" + m + ") when three are bound", x.all(m), second[m]);
        x.bind(2, true);
        int[] third = {1 << 4 | 1 << 3, 0, 0, 0, 7, 0, 0};
        for (int m = 0; m <= 6; m++) due("all(" + m + ") when all are bound", x.all(m), third[m]);
        x.turn();
        int[] fourth = {1 << 4 | 1 << 3, 0, 0, 0, 4, 3, 0};
        for (int m = 0; m <= 6; m++) due("all(" + m + ") turned", x.all(m), fourth[m]);
        x.undo();
        x.undo();
        x.undo();
        x.bind(1, false);
        x.bind(3, false);
        due("all(2)", x.all(2), 1);
        for (int v : new int[] {-1, 7, LOW, HIGH}) due("all(" + v + ")", x.all(v), -1);
    }

    // ---- 28: report

    private static void reads(String want) {
        due("report: how long", x.report(-1), want.length());
        for (int i = 0; i < want.length(); i++) due("report(" + i + ")", x.report(i), want.charAt(i));
        due("report: no more", x.report(want.length()), -2);
        due("report(HIGH)", x.report(HIGH), -2);
        due("report(-2)", x.report(-2), -1);
        due("report(LOW)", x.report(LOW), -1);
    }

    private static void promise28() {
        told(PEOPLE + GOODS + "sale s ga pc pd pieces 1 price 7 day 5;sale azbycxz gd pc pd pieces 1 price 1 day 5 bound;sale zz gb pc pd pieces 900 price 10 day 5 bound;");
        reads("s by 1 worth 7 ; azbycxz fails ; zz by 3 worth 6300 ; ");
        x.bind(0, true);
        x.resell(0, 1, 1, 5);
        reads("s by 4 worth 0 ; azbycxz fails ; zz by 4 worth 654 ; ");
        told(PEOPLE + GOODS + "band from 2 less 90;band from 3 less 0;sale big ga pc pd pieces 9999 price 1 day 5 bound;"
            + "sale few ga pc pd pieces 2 price 9999 day 6 royalty 99 fee 9999 packing 9999 freight 9999;");
        // 19998, 19798 and 29997 are 69793; times 9999 * 100 by 2 * 10.
        reads("big by 2 worth 3489301035 ; few by 1 worth 69793 ; ");
        StringBuilder sales = new StringBuilder();
        StringBuilder want = new StringBuilder();
        for (char c = 'a'; c <= 'j'; c++) {
            sales.append("sale names").append(c).append(" ga pc pd pieces 1000 price 100 day 5;");
            want.append("names").append(c).append(" by 1 worth 100000 ; ");
        }
        told("party pc;party pd;good ga group 1 land 1;" + sales);
        reads(want.toString());
        told("party pa;");
        reads("");
    }

    // ---- acts

    private static final String ACTS = PEOPLE + GOODS + "assist mo worth 100 by 50;sale sa ga pa pc pieces 10 price 100 day 5 uses mo;sale sb ga pc pd pieces 10 price 200 day 5 bound;band from 10 less 10;";

    /** That a refused call is no ACT. */
    private static void acts(String when, int want) { due(when + ": ACTS", x.count(11), want); }

    private static void promise29() {
        told(ACTS);
        due("price(0, 9999)", x.price(0, 9999), 100);
        due("price: told anew", Check.sale(x, 0, 4), 9999);
        due("price: OWN too", x.own(0), 99990 + 20);
        due("price(0, 1)", x.price(0, 1), 9999);
        due("price: it is so", x.price(0, 1), -1);
        for (int v : new int[] {0, -1, 10000, LOW, HIGH}) due("price(0, " + v + ")", x.price(0, v), -1);
        for (int v : new int[] {-1, 2, LOW, HIGH}) due("price(" + v + ", 5)", x.price(v, 5), -1);
        acts("price", 2);
        x.undo();
        due("price: taken back", Check.sale(x, 0, 4), 9999);
        x.undo();
        due("price: both taken back", Check.sale(x, 0, 4), 100);
    }

    private static void promise30() {
        told(ACTS);
        due("bind(0, true)", x.bind(0, true), true);
        due("bind: bound", Check.sale(x, 0, 6), 1);
        due("bind: it is so", x.bind(0, true), false);
        due("bind(1, false)", x.bind(1, false), true);
        due("bind: no more", Check.sale(x, 1, 6), 0);
        due("bind: it is so", x.bind(1, false), false);
        for (int v : new int[] {-1, 2, LOW, HIGH}) due("bind(" + v + ")", x.bind(v, true) || x.bind(v, false), false);
        acts("bind", 2);
        x.undo();
        due("bind: bound again", Check.sale(x, 1, 6), 1);
        x.undo();
        due("bind: free again", Check.sale(x, 0, 6), 0);
    }

    private static void promise31() {
        told(ACTS);
        due("relate: it is so", x.relate(0, 1, true), false);
        due("relate: it is so the other way round", x.relate(1, 0, true), false);
        due("relate: one and itself", x.relate(2, 2, true), false);
        due("relate: one and itself, no more", x.relate(2, 2, false), false);
        due("relate: not told", x.relate(0, 2, false), false);
        due("relate(2, 1)", x.relate(2, 1, true), true);
        due("relate: KIN by others in between", x.kin(0, 2), 1);
        due("relate: KIN, but not told so", x.relate(0, 2, false), false);
        due("relate: KIN, and told so now", x.relate(0, 2, true), true);
        due("relate: no more, the other way round", x.relate(1, 2, false), true);
        due("relate: still KIN", x.kin(1, 2), 1);
        due("relate: no more", x.relate(0, 2, false), true);
        due("relate: KIN no more", x.kin(1, 2), 0);
        for (int v : new int[] {-1, 4, LOW, HIGH}) {
            due("relate(" + v + ", 0)", x.relate(v, 0, true) || x.relate(v, 0, false), false);
            due("relate(0, " + v + ")", x.relate(0, v, true) || x.relate(0, v, false), false);
        }
        acts("relate", 4);
        due("relate: pairs", x.count(13), 1);
        x.undo();
        x.undo();
        due("relate: taken back", x.count(13), 3);
        due("relate: told so again", x.relate(1, 2, true), false);
        told("party pa;party pb;party pc;party pd;party pe;kin pa pb;kin pa pc;kin pa pd;kin pa pe;kin pb pc;kin pb pd;");
        due("relate: there are 6 pairs", x.relate(1, 4, true), false);
        due("relate: one less", x.relate(0, 1, false), true);
        due("relate: room for one", x.relate(4, 1, true), true);
        due("relate: there are 6 pairs again", x.relate(0, 1, true), false);
    }

    private static void promise32() {
        int[] without = {5, 30, 20, 10};
        int[] least = {0, 1, 0, 0};
        int[] most = {50, 999, 90, 99};
        told(ACTS);
        for (int k = 0; k < 4; k++) {
            due("rule(" + k + "): it is so", x.rule(k, without[k]), -1);
            due("rule(" + k + "): too little", x.rule(k, least[k] - 1), -1);
            due("rule(" + k + "): too much", x.rule(k, most[k] + 1), -1);
            due("rule(" + k + "): LOW", x.rule(k, LOW), -1);
            due("rule(" + k + "): HIGH", x.rule(k, HIGH), -1);
            due("rule(" + k + "): the least", x.rule(k, least[k]), without[k]);
            due("rule(" + k + "): told anew", x.count(6 + k), least[k]);
            due("rule(" + k + "): the most", x.rule(k, most[k]), least[k]);
            due("rule(" + k + "): it is so now", x.rule(k, most[k]), -1);
            due("rule(" + k + "): told anew again", x.count(6 + k), most[k]);
        }
        for (int v : new int[] {-1, 4, LOW, HIGH}) due("rule(" + v + ", 5)", x.rule(v, 5), -1);
        acts("rule", 8);
        for (int i = 0; i < 8; i++) x.undo();
        for (int k = 0; k < 4; k++) due("rule(" + k + "): taken back", x.count(6 + k), without[k]);
    }

    private static void promise33() {
        told(FALL);
        x.bind(0, true);
        x.bind(1, true);
        x.bind(2, true);
        due("turn()", x.turn(), 1);
        due("turn: TURNED", x.count(10), 1);
        due("turn: METHOD 5 first", x.method(0), 5);
        due("turn() again", x.turn(), 0);
        due("turn: TURNED no more", x.count(10), 0);
        due("turn: METHOD 4 first", x.method(0), 4);
        acts("turn", 5);
        x.undo();
        due("turn: taken back", x.count(10), 1);
        x.undo();
        due("turn: both taken back", x.count(10), 0);
    }

    private static void promise34() {
        told(ACTS + "resold gb pieces 1 price 2 day 3;");
        due("resell: behind", x.resell(3, 9999, 9999, 999), 1);
        int[] row = {3, 9999, 9999, 999};
        for (int k = 0; k < 4; k++) due("resell: row 1, " + k, x.resold(1, k), row[k]);
        due("resell: the least", x.resell(0, 1, 1, 0), 2);
        int[][] out = {{-1, 1, 1, 1}, {4, 1, 1, 1}, {0, 0, 1, 1}, {0, 10000, 1, 1}, {0, 1, 0, 1}, {0, 1, 10000, 1}, {0, 1, 1, -1}, {0, 1, 1, 1000}, {LOW, LOW, LOW, LOW}, {HIGH, HIGH, HIGH, HIGH}};
        for (int[] o : out) due("resell: out of bounds", x.resell(o[0], o[1], o[2], o[3]), -1);
        acts("resell", 2);
        due("resell: taken back", x.undo(), 1);
        due("resell: rows", x.count(4), 2);
        due("resell: none such", x.resold(2, 0), -1);
        for (int r = 2; r < 12; r++) due("resell: " + r, x.resell(1, r, 5, 5), r);
        due("resell: there are 12", x.resell(1, 1, 1, 1), -1);
        due("resell: 12 rows", x.count(4), 12);
    }

    private static void promise35() {
        told(ACTS);
        due("spread(0, 9999)", x.spread(0, 9999), 50);
        due("spread: by", x.assist(0, 1), 9999);
        due("spread: cut to nothing", x.share(0, 0), 0);
        due("spread: it is so", x.spread(0, 9999), -1);
        due("spread(0, 0)", x.spread(0, 0), 9999);
        due("spread: first", x.share(0, 0), 100);
        due("spread(0, 1)", x.spread(0, 1), 0);
        due("spread: by 1", x.share(0, 0), 100);
        for (int v : new int[] {-1, 10000, LOW, HIGH}) due("spread(0, " + v + ")", x.spread(0, v), -1);
        for (int v : new int[] {-1, 1, LOW, HIGH}) due("spread(" + v + ", 5)", x.spread(v, 5), -1);
        acts("spread", 3);
        x.undo();
        x.undo();
        x.undo();
        due("spread: taken back", x.assist(0, 1), 50);
    }

    private static void promise36() {
        told(ACTS + "band from 20 less 30;");
        due("lessen(0, 90)", x.lessen(0, 90), 10);
        due("lessen: told anew", x.band(0, 1), 90);
        due("lessen: the other one stays", x.band(1, 1), 30);
        due("lessen: it is so", x.lessen(0, 90), -1);
        due("lessen(0, 0)", x.lessen(0, 0), 90);
        for (int v : new int[] {-1, 91, LOW, HIGH}) due("lessen(0, " + v + ")", x.lessen(0, v), -1);
        for (int v : new int[] {-1, 2, LOW, HIGH}) due("lessen(" + v + ", 5)", x.lessen(v, 5), -1);
        acts("lessen", 2);
        x.undo();
        x.undo();
        due("lessen: taken back", x.band(0, 1), 10);
        told(PEOPLE + GOODS + "sale sa ga pc pd pieces 1 price 100 day 5 bound;sale sb ga pc pd pieces 10 price 90 day 5;band from 10 less 10;");
        due("lessen: BROUGHT by 10", x.worth(0), 100);
        x.lessen(0, 0);
        due("lessen: BROUGHT by 0", x.worth(0), 90);
    }

    // ---- 37: undo

    private static void promise37() {
        told(ACTS);
        due("undo: none", x.undo(), -1);
        x.price(0, 5);
        x.bind(0, true);
        x.relate(0, 3, true);
        x.rule(3, 7);
        x.turn();
        x.resell(0, 1, 1, 1);
        x.spread(0, 0);
        x.lessen(0, 3);
        acts("undo", 8);
        due("undo: lessen", x.undo(), 7);
        due("undo: less", x.band(0, 1), 10);
        due("undo: spread stays", x.assist(0, 1), 0);
        due("undo: spread", x.undo(), 6);
        due("undo: by", x.assist(0, 1), 50);
        due("undo: resell", x.undo(), 5);
        due("undo: rows", x.count(4), 0);
        due("undo: turn", x.undo(), 4);
        due("undo: TURNED", x.count(10), 0);
        due("undo: rule", x.undo(), 3);
        due("undo: duty", x.count(9), 10);
        due("undo: relate", x.undo(), 2);
        due("undo: kin", x.kin(0, 3), 0);
        due("undo: bind", x.undo(), 1);
        due("undo: bound", Check.sale(x, 0, 6), 0);
        due("undo: price", x.undo(), 0);
        due("undo: PRICE", Check.sale(x, 0, 4), 100);
        due("undo: none is left", x.undo(), -1);
        for (int v = 1; v <= 14; v++) x.price(0, v);
        acts("undo: 12 at most", 12);
        for (int left = 11; left >= 0; left--) due("undo: " + left + " are left", x.undo(), left);
        due("undo: no more than 12", x.undo(), -1);
        due("undo: the first two stay", Check.sale(x, 0, 4), 2);
        x.turn();
        due("undo: goes on behind that", x.undo(), 0);
        x.price(0, -1);
        x.keep(0, false);
        due("undo: what is refused, KEEPS are no ACTS", x.undo(), -1);
    }

    // ---- 38: keep

    private static void promise38() {
        told(ACTS);
        due("keep: nothing is in it", x.keep(0, true), false);
        x.price(0, 7);
        due("keep(0): laid", x.keep(0, false), true);
        acts("keep: laying takes nothing away", 1);
        x.bind(0, true);
        x.relate(2, 3, true);
        x.rule(0, 50);
        x.rule(1, 999);
        x.rule(2, 90);
        x.rule(3, 99);
        x.turn();
        x.resell(2, 3, 4, 5);
        x.spread(0, 3);
        x.lessen(0, 4);
        x.price(1, 9);
        x.feed(0x20202020, 0x20202020, 0x20202020, 0x20202020, 0x20202020);
        due("keep(1): nothing is in it", x.keep(1, true), false);
        due("keep(1): laid", x.keep(1, false), true);
        due("keep(0): gone back to", x.keep(0, true), true);
        counts("keep 0", 4, 4, 1, 2, 0, 1, 5, 30, 20, 10, 0, 0, 20, 1);
        due("keep: nothing can be taken back", x.undo(), -1);
        due("keep: PRICE", Check.sale(x, 0, 4), 7);
        due("keep: PRICE of sb", Check.sale(x, 1, 4), 200);
        due("keep: bound", Check.sale(x, 0, 6), 0);
        due("keep: KIN", x.kin(2, 3), 0);
        due("keep: by", x.assist(0, 1), 50);
        due("keep: less", x.band(0, 1), 10);
        x.price(0, 8);
        due("keep(1): gone back to", x.keep(1, true), true);
        counts("keep 1", 4, 4, 1, 2, 1, 1, 50, 999, 90, 99, 1, 0, 20, 2);
        due("keep 1: row", x.resold(0, 2), 4);
        due("keep 1: bound", Check.sale(x, 0, 6), 1);
        due("keep 1: by", x.assist(0, 1), 3);
        due("keep 1: less", x.band(0, 1), 4);
        due("keep 1: PRICE", Check.sale(x, 0, 4), 7);
        due("keep(0) still holds it", x.keep(0, true), true);
        due("keep 0 once more", Check.sale(x, 0, 4), 7);
        x.price(0, 6);
        due("keep(0): laid anew", x.keep(0, false), true);
        x.undo();
        due("keep(0): gone back to what is new", x.keep(0, true), true);
        due("keep 0 anew", Check.sale(x, 0, 4), 6);
        for (int v : new int[] {-1, 2, LOW, HIGH}) due("keep(" + v + ")", x.keep(v, false) || x.keep(v, true), false);
    }
}
