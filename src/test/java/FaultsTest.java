/**
 * FAULTS of the TEXT. In a case the sign | stands ahead of the place that is due; it is taken out before
 * the text is told, and at the end it means the end.
 */
public final class FaultsTest {
    private static final String P = "party pa;party pb;party pc;";
    private static final String G = "good ga group 1 land 1;good gb group 1 land 1;";
    private static final String A = "assist mo worth 5 first;assist de worth 5 by 5;";
    private static final String PGA = P + G + A;
    private static final String SALE = "sale sa ga pa pb pieces 1 price 1 day 1";

    public static void main(String[] args) {
        goodTexts();
        noTokens();
        forms();
        namesGivenAgain();
        toldAgain();
        namesUntold();
        numbers();
        tooMany();
        leastPlace();
        Check.finish();
    }

    private static void good(String text, int lines) {
        WorthLadder x = new WorthLadder();
        Check.due("text '" + text + "'", Check.tell(x, text), lines);
        Check.due("tape behind '" + text + "'", x.count(12), 0);
    }

    private static void fault(int kind, String marked) {
        int place = marked.indexOf('|');
        String text = marked.substring(0, place) + marked.substring(place + 1);
        WorthLadder x = new WorthLadder();
        Check.tell(x, "party old;party olda;kin old olda;near 9;");
        Check.due("text '" + marked + "'", Check.tell(x, text), -2 - (8 * place + kind));
        Check.due("tape behind '" + marked + "'", x.count(12), 0);
        Check.due("all else stays behind '" + marked + "'", x.count(0) * 100 + x.count(13) * 10 + x.count(6), 219);
    }

    private static void goodTexts() {
        good("", 0);
        good(" \n \n", 0);
        good("party a;", 1);
        good("party abcdefg;", 1);
        good("\nparty\n\na ;\n", 1);
        good("near5;window0001;margin 0090 ;duty 99;", 4);
        good("near 0;window 999;margin 0;duty 0;", 4);
        good("near 50;window 1;margin 90;duty 99;", 4);
        good("good ga group0land9;good gb group 9 land 0;", 2);
        good("assist mo worth 1 by 1;assist mp worth 9999 by 9999;assist mq worth 1 first;", 3);
        good("band from 2 less 0;band from 3 less 90;band from 9998 less 0;band from 9999 less 9;", 4);
        good(PGA + SALE + ";", 8);
        good(PGA + SALE + " uses de freight 0 packing 9999 uses mo fee 0 royalty 0 bound;", 8);
        good(PGA + "sale sa ga pb pa pieces 9999 price 9999 day 999 royalty 99 fee 9999 packing 0 freight 9999;", 8);
        good(PGA + "sale sa ga pb pa pieces 1 price 1 day 0;", 8);
        good(P + "kin pa pb;kin pb pc;kin pa pc;", 6);
        good(G + "resold ga pieces 1 price 1 day 0;resold gb pieces 9999 price 9999 day 999;", 4);
        good(G + "made ga cost 1 profit 0;made gb cost 9999 profit 99;", 4);
        good("party a;good b group 1 land 1;party c;sale d b c a pieces 1 price 1 day 1;party e;", 5);
    }

    private static void noTokens() {
        fault(1, "|A");
        fault(1, "party |A;");
        fault(1, "party a|A;");
        fault(1, "party |abcdefgh;");
        fault(1, "|partyabcd");
        fault(1, "near |12345;");
        fault(1, "near |00005;");
        fault(1, "near |-5;");
        fault(1, "near |.5;");
        fault(1, "near 5|,");
        fault(1, "|\tparty a;");
        fault(1, "party a;|\r");
        fault(1, "party a;|\0");
        fault(1, "party a;|" + (char) 225);
        fault(1, "party |" + (char) 255 + ";");
        fault(1, "party |`;");
        fault(1, "party |{;");
        fault(1, "near |/;");
        fault(1, "near |:;");
    }

    private static void forms() {
        fault(1, "|;");
        fault(1, "party a;|;");
        fault(1, "|5");
        fault(1, "|group 5;");
        fault(1, "|abc;");
        fault(1, "|bound;");
        fault(1, "|uses;");
        fault(1, "party|");
        fault(1, "party |;");
        fault(1, "party |5;");
        fault(1, "party a|");
        fault(1, "party a  \n |");
        fault(1, "party a |b;");
        fault(1, "party a |party b;");
        for (String word : Model.WORDS) fault(1, "party |" + word + ";");
        fault(1, "kin |;");
        fault(1, P + "kin |party pb;");
        fault(1, P + "kin pa |;");
        fault(1, P + "kin pa |5;");
        fault(1, P + "kin pa pb |pc;");
        fault(1, "good |group 1 land 1;");
        fault(1, "good ga |1 land 1;");
        fault(1, "good ga |land 1 group 1;");
        fault(1, "good ga group |land 1;");
        fault(1, "good ga group 1 |;");
        fault(1, "good ga group 1 land |;");
        fault(1, "good ga group 1 land 1 |1;");
        fault(1, "assist mo |first;");
        fault(1, "assist mo worth |first;");
        fault(1, "assist mo worth 5 |;");
        fault(1, "assist mo worth 5 |5;");
        fault(1, "assist mo worth 5 by |;");
        fault(1, "assist mo worth 5 by |first;");
        fault(1, "assist mo worth 5 first |by 5;");
        fault(1, "assist mo worth 5 by 5 |first;");
        fault(1, PGA + "sale |;");
        fault(1, PGA + "sale |sale ga pa pb pieces 1 price 1 day 1;");
        fault(1, PGA + "sale sa |;");
        fault(1, PGA + "sale sa ga pa |pieces 1 price 1 day 1;");
        fault(1, PGA + "sale sa ga pa pb |price 1 day 1;");
        fault(1, PGA + "sale sa ga pa pb pieces |price 1 day 1;");
        fault(1, PGA + "sale sa ga pa pb pieces 1 |day 1;");
        fault(1, PGA + "sale sa ga pa pb pieces 1 price 1 |bound;");
        fault(1, PGA + "sale sa ga pa pb pieces 1 price 1 day |bound;");
        fault(1, PGA + SALE + " |1;");
        fault(1, PGA + SALE + " |party pd;");
        fault(1, PGA + SALE + " |mo;");
        fault(1, PGA + SALE + " royalty |;");
        fault(1, PGA + SALE + " fee |bound;");
        fault(1, PGA + SALE + " bound |5;");
        fault(1, PGA + SALE + " uses |;");
        fault(1, PGA + SALE + " uses |uses mo;");
        fault(1, PGA + SALE + "|");
        fault(1, PGA + SALE + " bound |");
        fault(1, PGA + SALE + " uses mo |de;");
        fault(1, G + "resold |pieces 1 price 1 day 1;");
        fault(1, G + "resold ga |price 1 day 1;");
        fault(1, G + "resold ga pieces 1 price 1 day 1 |bound;");
        fault(1, G + "made |cost 1 profit 1;");
        fault(1, G + "made ga |profit 1;");
        fault(1, G + "made ga cost 1 |;");
        fault(1, G + "made ga cost 1 profit |;");
        fault(1, "band |2 less 1;");
        fault(1, "band from |less 1;");
        fault(1, "band from 2 |;");
        fault(1, "band from 2 less |;");
        fault(1, "near |;");
        fault(1, "near |near 5;");
        fault(1, "duty 5|");
        fault(1, "duty 5 |5;");
    }

    private static void namesGivenAgain() {
        fault(2, "party pa;party |pa;");
        fault(2, P + "good |pa group 1 land 1;");
        fault(2, G + "party |gb;");
        fault(2, A + "party |de;");
        fault(2, A + "assist |mo worth 1 first;");
        fault(2, PGA + SALE + ";sale |sa ga pa pb pieces 1 price 1 day 1;");
        fault(2, PGA + SALE + ";party |sa;");
        fault(2, PGA + "sale |pa ga pa pb pieces 1 price 1 day 1;");
    }

    private static void toldAgain() {
        fault(2, P + "kin pa pb;kin pa |pb;");
        fault(2, P + "kin pa pb;kin pb |pa;");
        fault(2, PGA + SALE + " bound |bound;");
        fault(2, PGA + SALE + " royalty 1 |royalty 1;");
        fault(2, PGA + SALE + " fee 0 bound |fee 1;");
        fault(2, PGA + SALE + " packing 1 |packing;");
        fault(2, PGA + SALE + " freight 1 |freight 10000;");
        fault(2, PGA + SALE + " uses mo uses de uses |mo;");
        fault(2, G + "made ga cost 1 profit 0;made gb cost 1 profit 1;made |ga cost 1 profit 1;");
        fault(2, "near 5;|near 5;");
        fault(2, "window 5;near 5;|window;");
        fault(2, "margin 5;|margin 500;");
        fault(2, "duty 5;margin 5;window 5;|duty 5;");
    }

    private static void namesUntold() {
        fault(3, "kin |pa pb;");
        fault(3, P + "kin pa |pd;");
        fault(3, P + G + "kin pa |ga;");
        fault(3, P + G + "kin |ga pa;");
        fault(3, PGA + "sale sa |gc pa pb pieces 1 price 1 day 1;");
        fault(3, PGA + "sale sa |sa pa pb pieces 1 price 1 day 1;");
        fault(3, PGA + "sale sa |pa pa pb pieces 1 price 1 day 1;");
        fault(3, PGA + "sale sa ga |ga pb pieces 1 price 1 day 1;");
        fault(3, PGA + "sale sa ga pa |mo pieces 1 price 1 day 1;");
        fault(3, PGA + SALE + " uses |mp;");
        fault(3, PGA + SALE + " uses |ga;");
        fault(3, PGA + SALE + " uses |sa;");
        fault(3, PGA + "resold |gc pieces 1 price 1 day 1;");
        fault(3, PGA + "resold |mo pieces 1 price 1 day 1;");
        fault(3, PGA + "made |gc cost 1 profit 1;");
        fault(3, PGA + "made |pa cost 1 profit 1;");
        fault(3, "made |ga cost 1 profit 1;" + G);
    }

    private static void numbers() {
        fault(4, P + "kin pa |pa;");
        fault(4, P + "kin pa pb;kin pa |pa;");
        fault(4, PGA + "sale sa ga pb |pb pieces 1 price 1 day 1;");
        fault(4, "good ga group |10 land 1;");
        fault(4, "good ga group 1 land |10;");
        fault(4, "assist mo worth |0 first;");
        fault(4, "assist mo worth 1 by |0;");
        fault(4, PGA + "sale sa ga pa pb pieces |0 price 1 day 1;");
        fault(4, PGA + "sale sa ga pa pb pieces 1 price |0000 day 1;");
        fault(4, PGA + "sale sa ga pa pb pieces 1 price 1 day |1000;");
        fault(4, PGA + SALE + " royalty |100;");
        fault(4, G + "resold ga pieces |0 price 1 day 1;");
        fault(4, G + "resold ga pieces 1 price |0 day 1;");
        fault(4, G + "resold ga pieces 1 price 1 day |1000;");
        fault(4, G + "made ga cost |0 profit 1;");
        fault(4, G + "made ga cost 1 profit |100;");
        fault(4, "band from |0 less 1;");
        fault(4, "band from |1 less 1;");
        fault(4, "band from 2 less |91;");
        fault(4, "band from 5 less 1;band from |5 less 1;");
        fault(4, "band from 5 less 1;band from |4 less 1;");
        fault(4, "band from 9999 less 1;band from |9999 less 1;");
        fault(4, "near |51;");
        fault(4, "window |0;");
        fault(4, "window |1000;");
        fault(4, "margin |91;");
        fault(4, "duty |100;");
    }

    private static String times(int n, String form) {
        StringBuilder text = new StringBuilder();
        for (int i = 0; i < n; i++) text.append(form.replace('#', (char) ('a' + i)));
        return text.toString();
    }

    private static void tooMany() {
        good(times(6, "party p#;"), 6);
        fault(5, times(6, "party p#;") + "|party pg;");
        fault(5, times(6, "party p#;") + "|party pa;");
        fault(5, times(6, "party p#;") + "|party");
        good(times(6, "good g# group 1 land 1;"), 6);
        fault(5, times(6, "good g# group 1 land 1;") + "|good;");
        good(times(4, "assist m# worth 1 first;"), 4);
        fault(5, times(4, "assist m# worth 1 first;") + "|assist me worth 0 first;");
        String pairs = times(4, "party p#;") + "kin pa pb;kin pa pc;kin pa pd;kin pb pc;kin pb pd;kin pc pd;";
        good(pairs, 10);
        fault(5, pairs + "|kin pa pb;");
        good(P + G + times(10, "sale s# ga pa pb pieces 1 price 1 day 1;"), 15);
        fault(5, P + G + times(10, "sale s# ga pa pb pieces 1 price 1 day 1;") + "|sale sa;");
        good("good g group 1 land 1;" + times(12, "resold g pieces 1 price 1 day 1;"), 13);
        fault(5, "good g group 1 land 1;" + times(12, "resold g pieces 1 price 1 day 1;") + "|resold g pieces 1 price 1 day 1;");
        String bands = "band from 2 less 1;band from 3 less 1;band from 4 less 1;band from 5 less 1;";
        good(bands, 4);
        fault(5, bands + "|band from 6 less 1;");
    }

    private static void leastPlace() {
        fault(3, P + "kin |pd A;");
        fault(1, P + "kin |A pd;");
        fault(4, "near |51 abcdefgh;");
        fault(2, "near 5;|near 51;");
        fault(2, "party a;party |a b;");
        fault(4, "near |99");
    }
}
