import java.util.ArrayList;
import java.util.List;
import java.util.function.ToLongFunction;

/**
 * The bounds of THE TAPE and of the TEXT, sentence by sentence: 'Terms', part 1, and promises 2 and 3. In a text the
 * sign | stands ahead of the place of the FAULT that is due and is taken out, # where a NUMBER or a NAME is put in.
 */
public final class BoundsTextTest {
    private static final int BLANK = 0x20202020;
    private static final int LOW = Integer.MIN_VALUE;
    private static final int HIGH = Integer.MAX_VALUE;

    private static final String P = "party pa;party pb;party pc;";
    private static final String G = "good ga group 1 land 1;good gb group 1 land 1;";
    private static final String A = "assist mo worth 5 first;assist de worth 5 by 5;";
    private static final String SALE = "sale sa ga pa pb pieces 1 price 1 day 1";

    public static void main(String[] args) {
        tape();
        feeds();
        texts();
        faultsLeaveAllElse();
        blanks();
        words();
        numbersAsTokens();
        semicolons();
        linesOfEachSort();
        boundsOfNumbers();
        groupsAndLands();
        bandsRise();
        unlikeAndOnce();
        extras();
        namesThatCannotBe();
        namesAlike();
        namesAhead();
        allNames();
        wordsOutOfPlace();
        leastPlace();
        theEnd();
        Check.finish();
    }

    private static void due(String call, long got, long want) { Check.due(call, got, want); }

    /** The text told to a new object. */
    private static int told(String text) { return Check.tell(new WorthLadder(), text); }

    private static void taken(String text, int lines) { due("text '" + text + "'", told(text), lines); }

    private static void fault(int kind, String marked) {
        int place = marked.indexOf('|');
        String text = marked.substring(0, place) + marked.substring(place + 1);
        due("text '" + marked + "'", told(text), Check.fault(place, kind));
    }

    private static void fill(WorthLadder x, int feeds) {
        for (int i = 0; i < feeds; i++) x.feed(BLANK, BLANK, BLANK, BLANK, BLANK);
    }

    // ---- THE TAPE

    private static void tape() {
        Check.says("THE TAPE has 900 bytes");
        WorthLadder x = new WorthLadder();
        due("an empty one", x.count(12), 0);
        fill(x, 44);
        due("ahead of the last", x.count(12), 880);
        due("the last twenty", x.feed(BLANK, BLANK, BLANK, BLANK, 0x20202041), 900);
        due("full", x.count(12), 900);
        due("its last byte is read", x.text(900), Check.fault(899, 1));
        String full = "near 5;" + " ".repeat(900 - 15) + "duty 99;";
        due("a text of 900 bytes", full.length(), 900);
        due("told", Check.tell(x, full), 2);
        due("its last LINE holds", x.count(9), 99);
        String open = "near 5;" + " ".repeat(900 - 13) + "duty 9";
        due("the end of 900 bytes", Check.tell(x, open), Check.fault(900, 1));
    }

    private static void feeds() {
        Check.says("2: of each number the highest first");
        for (int at = 0; at < 20; at++) {
            int[] v = {BLANK, BLANK, BLANK, BLANK, BLANK};
            v[at / 4] ^= (0x20 ^ 0x41) << 24 - at % 4 * 8;
            WorthLadder x = new WorthLadder();
            x.feed(v[0], v[1], v[2], v[3], v[4]);
            due("byte " + at, x.text(20), Check.fault(at, 1));
            v[at / 4] |= 0xff << 24 - at % 4 * 8;
            x.feed(v[0], v[1], v[2], v[3], v[4]);
            due("byte " + at + " of 255", x.text(20), Check.fault(at, 1));
        }

        Check.says("2: NONE, and none come, if it would have more than 900");
        WorthLadder x = Check.told("party pa;near 7;");
        fill(x, 45);
        String was = Check.shot(x);
        due("the first too many", x.feed(0x41414141, 0x41414141, 0x41414141, 0x41414141, 0x41414141), -1);
        due("again", x.feed(0, 0, 0, 0, 0), -1);
        Check.due("nothing changes", Check.shot(x), was);
        due("all 900 are as they were", x.text(900), 0);
        due("an empty tape takes some again", x.feed(BLANK, BLANK, BLANK, BLANK, BLANK), 20);
    }

    private static WorthLadder heavy() {
        WorthLadder x = Check.told(P + "kin pa pb;" + G + A + "band from 5 less 6;near 7;" + SALE + " uses mo bound;resold gb pieces 1 price 2 day 3;");
        x.keep(0, false);
        x.price(0, 50);
        x.turn();
        x.keep(1, false);
        x.resell(0, 1, 1, 1);
        return x;
    }

    /** ACTS and KEEPS of heavy() are still those. */
    private static void heavyStill(WorthLadder x) {
        due("undo: the row", x.undo(), 2);
        due("undo: rows", x.count(4), 1);
        due("undo: TURNED", x.undo() * 10 + x.count(10), 10);
        due("undo: PRICE", x.undo() * 10 + Check.sale(x, 0, 4), 1);
        due("undo: no more", x.undo(), -1);
        Check.due("KEEP 1", x.keep(1, true), true);
        due("KEEP 1: TURNED", x.count(10) * 100 + Check.sale(x, 0, 4), 150);
        Check.due("KEEP 0", x.keep(0, true), true);
        due("KEEP 0: not TURNED", x.count(10) * 100 + Check.sale(x, 0, 4), 1);
    }

    private static void texts() {
        Check.says("3: NONE: it has not so many, n is below 0 (THE TAPE stays)");
        for (int n : new int[] {21, 22, 900, 901, HIGH, -1, -2, LOW}) {
            WorthLadder x = heavy();
            Check.lay(x, "party pz;           ");
            String was = Check.shot(x);
            due("text(" + n + ")", x.text(n), -1);
            Check.due("nothing changes behind text(" + n + ")", Check.shot(x), was);
            heavyStill(x);
            due("THE TAPE holds what it held, text(20)", x.text(20), 1);
            due("that is told", x.count(0), 1);
        }
        WorthLadder x = new WorthLadder();
        due("an empty tape: text(1)", x.text(1), -1);
        due("an empty tape: text(0)", x.text(0), 0);

        Check.says("3: The first n bytes of THE TAPE (it is empty then) are the TEXT from now on");
        for (int n : new int[] {0, 8, 16, 20}) {
            x = heavy();
            Check.lay(x, "party a;party b;    ");
            due("text(" + n + ")", x.text(n), n / 8);
            due("PARTIES", x.count(0), n / 8);
            due("THE TAPE is empty", x.count(12), 0);
            due("what stood behind is gone", x.text(1), -1);
            for (int what : new int[] {1, 2, 3, 4, 5, 10, 11, 13}) due("nothing else is told: count(" + what + ")", x.count(what), 0);
            due("near as without", x.count(6), 5);
            due("nothing can be taken back", x.undo(), -1);
            Check.due("KEEP 0 is empty", x.keep(0, true), false);
            Check.due("KEEP 1 is empty", x.keep(1, true), false);
        }
        x = Check.told("party abcdefg;party abcdef;");
        Check.lay(x, "party c;");
        due("bytes of a TEXT ahead are not read again", x.text(20), 1);
        Check.lay(x, "party abcdefgh;");
        due("a WORD is cut by n", x.text(13), Check.fault(13, 1));
        Check.lay(x, "party abcdefgh;");
        due("a WORD is not cut by n", x.text(14), Check.fault(6, 1));
        Check.lay(x, "near 00005;");
        due("a NUMBER is cut by n", x.text(9), Check.fault(9, 1));
        Check.lay(x, "near 00005;");
        due("a NUMBER is not cut by n", x.text(10), Check.fault(5, 1));
    }

    private static void faultsLeaveAllElse() {
        Check.says("3: a FAULT (all else stays)");
        String[] faulty = {"|A", "party pz;party |pz;", "party pz;near 9;kin pz |py;", "party pz;near 9;window 7;duty |100;",
            "party a;party b;party c;party d;party e;party f;|party g;",
            "party a;party b;good c group 9 land 9;good d group 8 land 8;made c cost 9 profit 9;assist e worth 9 first;band from 9 less 9;"
                + "sale f c a b pieces 9 price 9 day 9 uses e;resold d pieces 9 price 9 day 9;kin a b;margin 9|"};
        int[] kinds = {1, 2, 3, 4, 5, 1};
        for (int i = 0; i < faulty.length; i++) {
            WorthLadder x = heavy();
            String was = Check.shot(x);
            int place = faulty[i].indexOf('|');
            due("text '" + faulty[i] + "'", Check.tell(x, faulty[i].replace("|", "")), Check.fault(place, kinds[i]));
            Check.due("all else stays behind '" + faulty[i] + "'", Check.shot(x), was);
            heavyStill(x);
            due("THE TAPE is empty", x.count(12), 0);
        }
        WorthLadder x = new WorthLadder();
        String half = "party pa;near 5;good ga group 1 land 1;made ga cost 1 profit 1;";
        due("a FAULT at first", Check.tell(x, half + "x"), Check.fault(half.length(), 1));
        due("nothing of it is told", x.count(0) + x.count(1), 0);
        due("nor does it stand in the way of the next", Check.tell(x, half), 4);
    }

    // ---- TOKENS

    private static void blanks() {
        Check.says("Blanks, 32, 10, part TOKENS and mean nothing else");
        for (int sign = 0; sign < 256; sign++) {
            String at = "sign " + sign + " ";
            char c = (char) sign;
            boolean isBlank = sign == 32 || sign == 10;
            boolean isLetter = sign >= 'a' && sign <= 'z';
            due(at + "between WORDS", told("party" + c + "a;"), isBlank ? 1 : isLetter ? Check.fault(0, 1) : Check.fault(5, 1));
            due(at + "ahead of all", told(c + "near 5;"), isBlank ? 1 : Check.fault(0, 1));
            due(at + "behind all", told("near 5;" + c), isBlank ? 1 : Check.fault(7, 1));
            boolean isDigit = sign >= '0' && sign <= '9';
            // Behind 'near 1' a digit makes 10 to 19, a ; ends the LINE and another one is too many.
            int inner = isBlank || isDigit ? 1 : Check.fault(sign == ';' ? 7 : 6, 1);
            due(at + "behind a NUMBER", told("near 1" + c + ";"), inner);
        }
        taken("", 0);
        taken(" ", 0);
        taken("\n", 0);
        taken(" ".repeat(900), 0);
        taken("\n".repeat(900), 0);
        taken("near5;window5;", 2);
        taken("good ga group0land9;", 1);
        taken("  \n party \n\n pa \n ; \n ", 1);
        fault(1, "|par ty pa;");
        fault(1, "near 1 |2;");
        fault(1, "party p |a;");
    }

    private static void words() {
        Check.says("WORDS (small letters, each that stand together; 1 to 7)");
        taken("party a;", 1);
        taken("party z;", 1);
        taken("party abcdefg;", 1);
        taken("party zzzzzzz;", 1);
        taken("party a;party aa;party aaa;party aaaa;party aaaaa;party aaaaaa;", 6);
        fault(1, "party |abcdefgh;");
        fault(1, "party |aaaaaaaaaaaaaaaaaaaaaaaaaaaaaaaaaaaaaaaaa;");
        fault(1, "|parties pa;");
        fault(1, "|partypaa;");
        fault(1, "near |abcdefgh;");
        fault(1, "near 5;|abcdefgh");
        fault(1, P + "kin |abcdefgh pa;");
        fault(1, P + "kin pa |abcdefgh;");
        fault(1, "party pa|A;");
        fault(1, "party |A;");
        fault(1, "party |Z;");
        fault(1, "party |`;");
        fault(1, "party |{;");
        Check.says("a WORD of 7 is known to its last letter");
        fault(3, P + "party abcdefg;kin pa |abcdefh;");
        fault(3, P + "party abcdefg;kin pa |bbcdefg;");
        fault(3, P + "party abcdefg;kin pa |abcdef;");
        fault(3, P + "party a;kin pa |aa;");
        fault(2, P + "party abcdefg;party |abcdefg;");
        taken(P + "party abcdefg;kin abcdefg pa;", 5);
        taken("good ga group 1 land 1;party pa;party pb;sale zyxwvut ga pa pb pieces 1 price 1 day 1 royalty 1 packing 1 freight 1;", 4);
    }

    private static void numbersAsTokens() {
        Check.says("NUMBERS (digits, likewise; 1 to 4)");
        taken("near 0;", 1);
        taken("near 9;", 1);
        taken("near 05;", 1);
        taken("near 0050;", 1);
        taken("assist mo worth 9999 first;", 1);
        fault(1, "assist mo worth |10000 first;");
        fault(1, "near |00005;");
        fault(1, "near |99999999999999999999999999;");
        // It would be 5, were it counted in 32 or in 64 bits alone.
        fault(1, "near |4294967301;");
        fault(1, "near |18446744073709551621;");
        fault(1, "party |12345;");
        fault(1, "near |/;");
        fault(1, "near |:;");
        fault(1, "near |-1;");
        fault(1, "near |+1;");
        WorthLadder x = Check.told("near 0050;window 0007;margin 08;");
        due("leading naughts", x.count(6) * 10000 + x.count(7) * 100 + x.count(8), 500708);
    }

    private static void semicolons() {
        Check.says("; alone");
        fault(1, "|;");
        fault(1, "near 5;|;");
        fault(1, "near 5; |;");
        fault(1, "near |;");
        fault(1, "|,");
        fault(1, "near 5|:");
        Check.says("TEXT: { LINE ; }");
        taken("", 0);
        taken("near 5;", 1);
        fault(1, "near 5|");
        fault(1, "near 5 |window 5;");
        taken("near 5;window 5;margin 5;duty 5;", 4);
    }

    // ---- how many LINES

    private static String times(int n, String form) {
        StringBuilder text = new StringBuilder();
        for (int i = 0; i < n; i++) text.append(form.replace("#", String.valueOf((char) ('a' + i))).replace("@", String.valueOf(i + 2)));
        return text.toString();
    }

    private static void atMost(String ahead, String form, int most, int count) {
        Check.says("'" + form + "': " + most + " at most");
        int before = (int) ahead.chars().filter(c -> c == ';').count();
        WorthLadder x = new WorthLadder();
        due("one less", Check.tell(x, ahead + times(most - 1, form)), before + most - 1);
        due("one less are there", x.count(count), most - 1);
        due("just so many", Check.tell(x, ahead + times(most, form)), before + most);
        due("just so many are there", x.count(count), most);
        String was = Check.shot(x);
        String full = ahead + times(most, form);
        String word = form.substring(0, form.indexOf(' '));
        String one = times(most + 1, form).substring(times(most, form).length());
        due("one more", Check.tell(x, full + one), Check.fault(full.length(), 5));
        due("one more, the WORD alone", Check.tell(x, full + word), Check.fault(full.length(), 5));
        due("one more, with what is no TOKEN behind", Check.tell(x, full + word + " A"), Check.fault(full.length(), 5));
        due("one more, as the first of them", Check.tell(x, full + times(1, form)), Check.fault(full.length(), 5));
        due("a longer WORD is none", Check.tell(x, full + word + "x"), Check.fault(full.length(), 1));
        Check.due("nothing changes", Check.shot(x), was);
    }

    private static void linesOfEachSort() {
        atMost("", "party p#;", 6, 0);
        atMost("", "good g# group 1 land 1;", 6, 1);
        atMost("", "assist m# worth 1 first;", 4, 2);
        atMost("party pa;party pb;good g group 1 land 1;", "sale s# g pa pb pieces 1 price 1 day 1;", 10, 3);
        atMost("good g group 1 land 1;", "resold g pieces 1 price 1 day 1;", 12, 4);
        atMost("", "band from @ less 1;", 4, 5);

        Check.says("kin PARTY PARTY (6 at most)");
        String four = "party pa;party pb;party pc;party pd;party pe;";
        String five = four + "kin pa pb;kin pa pc;kin pa pd;kin pb pc;kin pb pd;";
        WorthLadder x = new WorthLadder();
        due("five", Check.tell(x, five) * 100 + x.count(13), 1005);
        due("six", Check.tell(x, five + "kin pc pd;") * 100 + x.count(13), 1106);
        due("seven", Check.tell(x, five + "kin pc pd;kin pa pe;"), Check.fault(five.length() + 10, 5));
        due("seven, one again", Check.tell(x, five + "kin pc pd;kin pa pb;"), Check.fault(five.length() + 10, 5));
        due("six stay", x.count(13), 6);

        Check.says("made GOOD (once for a GOOD): six for six");
        String goods = times(6, "good g# group 1 land 1;");
        taken(goods + times(6, "made g# cost 1 profit 1;"), 12);
        fault(2, goods + times(6, "made g# cost 1 profit 1;") + "made |gf cost 1 profit 1;");
        fault(2, goods + times(6, "made g# cost 1 profit 1;") + "made |ga cost 1 profit 1;");

        Check.says("resold (12 at most, those by resell(), too)");
        x = Check.told("good g group 1 land 1;" + times(11, "resold g pieces 1 price 1 day 1;"));
        due("the twelfth by resell()", x.resell(0, 1, 1, 1), 11);
        due("the thirteenth by resell()", x.resell(0, 1, 1, 1), -1);
        due("twelve", x.count(4), 12);
        x = Check.told("good g group 1 land 1;" + times(12, "resold g pieces 1 price 1 day 1;"));
        due("twelve in the TEXT, then resell()", x.resell(0, 1, 1, 1), -1);
        due("twelve", x.count(4), 12);
        due("no ACT", x.count(11), 0);

        Check.says("near, window, margin, duty: the last four once each");
        for (String rule : List.of("near", "window", "margin", "duty")) {
            taken("near 1;window 1;margin 1;duty 1;", 4);
            fault(2, "near 1;window 1;margin 1;duty 1;|" + rule + " 2;");
            fault(2, "near 1;window 1;margin 1;duty 1;|" + rule);
            fault(2, rule + " 1;|" + rule + " 1;");
        }
        taken("duty 1;margin 1;window 1;near 1;", 4);
    }

    // ---- bounds of NUMBERS

    private static void number(String form, int least, int most, ToLongFunction<WorthLadder> ask) {
        Check.says("'" + form + "': " + least + " to " + most);
        int lines = (int) form.chars().filter(c -> c == ';').count();
        int place = form.indexOf('#');
        for (int v : new int[] {least, least + 1, most - 1, most}) {
            WorthLadder x = new WorthLadder();
            due(v + " is taken", Check.tell(x, form.replace("#", String.valueOf(v))), lines);
            if (ask != null) due(v + " is told", ask.applyAsLong(x), v);
            due(v + " in four digits", told(form.replace("#", String.format("%04d", v))), lines);
            due(v + " in five digits", told(form.replace("#", String.format("%05d", v))), Check.fault(place, 1));
        }
        if (least > 0) due(least - 1 + " is refused", told(form.replace("#", String.valueOf(least - 1))), Check.fault(place, 4));
        if (least > 0) due("0 is refused", told(form.replace("#", "0")), Check.fault(place, 4));
        // 10000 has five digits: it is no TOKEN.
        due(most + 1 + " is refused", told(form.replace("#", String.valueOf(most + 1))), Check.fault(place, most < 9999 ? 4 : 1));
        if (most < 9999) due("9999 is refused", told(form.replace("#", "9999")), Check.fault(place, 4));
        due("a WORD is refused", told(form.replace("#", "pa")), Check.fault(place, 1));
        due("none is refused", told(form.replace("#", "")), Check.fault(placeOfNext(form, place), 1));
    }

    /** Where the next TOKEN stands when nothing is put in. */
    private static int placeOfNext(String form, int place) {
        int at = place;
        String text = form.replace("#", "");
        while (text.charAt(at) == ' ') at++;
        return at;
    }

    private static void boundsOfNumbers() {
        number("good ga group # land 1;", 0, 9, null);
        number("good ga group 1 land #;", 0, 9, null);
        number("assist mo worth # first;", 1, 9999, x -> x.assist(0, 0));
        number("assist mo worth # by 7;", 1, 9999, x -> x.assist(0, 0));
        number("assist mo worth 7 by #;", 1, 9999, x -> x.assist(0, 1));
        String ahead = "party pa;party pb;good ga group 1 land 1;assist mo worth 5 first;";
        number(ahead + "sale sa ga pa pb pieces # price 1 day 1;", 1, 9999, x -> Check.sale(x, 0, 3));
        number(ahead + "sale sa ga pa pb pieces 1 price # day 1;", 1, 9999, x -> Check.sale(x, 0, 4));
        number(ahead + "sale sa ga pa pb pieces 1 price 1 day #;", 0, 999, x -> Check.sale(x, 0, 5));
        String sale = ahead + "sale sa ga pa pb pieces 1 price 1 day 1 ";
        number(sale + "royalty #;", 0, 99, x -> Check.sale(x, 0, 7));
        number(sale + "bound fee #;", 0, 9999, x -> Check.sale(x, 0, 8));
        number(sale + "uses mo packing #;", 0, 9999, x -> Check.sale(x, 0, 9));
        number(sale + "freight # royalty 7;", 0, 9999, x -> Check.sale(x, 0, 10));
        number("good ga group 1 land 1;resold ga pieces # price 1 day 1;", 1, 9999, x -> x.resold(0, 1));
        number("good ga group 1 land 1;resold ga pieces 1 price # day 1;", 1, 9999, x -> x.resold(0, 2));
        number("good ga group 1 land 1;resold ga pieces 1 price 1 day #;", 0, 999, x -> x.resold(0, 3));
        number(ahead + "made ga cost # profit 0;sale sa ga pa pb pieces 1 price 1 day 1;", 1, 9999, x -> x.by(0, 5));
        number(ahead + "made ga cost 100 profit #;sale sa ga pa pb pieces 1 price 1 day 1;", 0, 99, x -> x.by(0, 5) - 100);
        number("band from # less 5;", 2, 9999, x -> x.band(0, 0));
        number("band from 5 less #;", 0, 90, x -> x.band(0, 1));
        number("band from 5 less 5;band from # less 5;", 6, 9999, x -> x.band(1, 0));
        number("near #;", 0, 50, x -> x.count(6));
        number("window #;", 1, 999, x -> x.count(7));
        number("margin #;", 0, 90, x -> x.count(8));
        number("duty #;", 0, 99, x -> x.count(9));

        Check.says("near NUMBER (5 without), window (30), margin (20), duty (10)");
        WorthLadder x = Check.told("near 1;window 1;margin 1;duty 1;");
        String[] rules = {"near 7;", "window 7;", "margin 7;", "duty 7;"};
        int[] without = {5, 30, 20, 10};
        for (int told = 0; told < 4; told++) {
            Check.tell(x, rules[told]);
            for (int i = 0; i < 4; i++) due("count(" + (6 + i) + ") with '" + rules[told] + "'", x.count(6 + i), i == told ? 7 : without[i]);
        }
    }

    /** A GOOD's group and land can't be asked: each of 0 to 9 is like itself alone. */
    private static void groupsAndLands() {
        Check.says("good NAME group NUMBER land NUMBER (0 to 9 each)");
        for (int one = 0; one <= 9; one++) {
            for (int other = 0; other <= 9; other++) {
                int want = one == other ? 2 : 0;
                due("groups " + one + ", " + other, Check.told("good ga group " + one + " land 0;good gb group " + other + " land 0;").like(0, 1), want);
                due("lands " + one + ", " + other, Check.told("good ga group 0 land " + one + ";good gb group 0 land " + other + ";").like(0, 1), want);
            }
        }
    }

    private static void bandsRise() {
        Check.says("band from NUMBER (above that of the band ahead)");
        taken("band from 2 less 90;band from 3 less 0;band from 4 less 90;band from 5 less 0;", 4);
        taken("band from 9996 less 1;band from 9997 less 1;band from 9998 less 1;band from 9999 less 1;", 4);
        fault(4, "band from 7 less 1;band from |7 less 1;");
        fault(4, "band from 7 less 1;band from |6 less 1;");
        fault(4, "band from 7 less 1;band from 8 less 1;band from |8 less 1;");
        fault(4, "band from 7 less 1;band from 9 less 1;band from |8 less 1;");
        fault(4, "band from 9999 less 1;band from |9999 less 1;");
        WorthLadder x = Check.told("band from 9999 less 1;");
        due("a TEXT ahead has no bands here", Check.tell(x, "band from 2 less 1;"), 1);
    }

    // ---- what is told once alone, what must be unlike

    private static void unlikeAndOnce() {
        Check.says("kin PARTY PARTY (unlike)");
        taken(P + "kin pa pb;", 4);
        fault(4, P + "kin pa |pa;");
        fault(4, P + "kin pc |pc;");
        fault(4, P + "kin pa pb;kin pb |pb;");
        Check.says("kin PARTY PARTY (no two twice, in whatever order)");
        taken(P + "kin pa pb;kin pb pc;kin pc pa;", 6);
        fault(2, P + "kin pa pb;kin pa |pb;");
        fault(2, P + "kin pa pb;kin pb |pa;");
        fault(2, P + "kin pa pb;kin pb pc;kin pc pa;kin pa |pc;");
        Check.says("sale NAME GOOD PARTY PARTY (who sells, who buys, unlike)");
        taken(P + G + "sale sa ga pb pa pieces 1 price 1 day 1;", 6);
        fault(4, P + G + "sale sa ga pa |pa pieces 1 price 1 day 1;");
        fault(4, P + G + "sale sa ga pc |pc pieces 0 price 1 day 1;");
        Check.says("made GOOD (once for a GOOD)");
        taken(G + "made ga cost 1 profit 0;made gb cost 1 profit 0;", 4);
        fault(2, G + "made ga cost 1 profit 0;made |ga cost 1 profit 0;");
        fault(2, G + "made ga cost 1 profit 0;made gb cost 1 profit 0;made |ga;");
        WorthLadder x = Check.told(G + "made ga cost 1 profit 0;");
        due("made in a TEXT ahead", Check.tell(x, G + "made ga cost 1 profit 0;"), 3);
    }

    private static void extras() {
        Check.says("EXTRA: each once in a sale");
        String ahead = P + G + A;
        String all = " bound royalty 1 fee 2 packing 3 freight 4 uses mo uses de";
        taken(ahead + SALE + all + ";", 8);
        String[] again = {"bound", "royalty 1", "fee 1", "packing 1", "freight 1"};
        for (String one : again) {
            fault(2, ahead + SALE + all + " |" + one + ";");
            fault(2, ahead + SALE + " " + one + " |" + one + ";");
            fault(2, ahead + SALE + all + " |" + one.split(" ")[0] + " A");
            for (String other : again) if (!one.equals(other)) taken(ahead + SALE + " " + one + " " + other + ";", 8);
        }
        taken(P + G + A + SALE + all + ";sale sb ga pa pb pieces 1 price 1 day 1" + all + ";", 9);
        WorthLadder x = Check.told(ahead + SALE + " uses de freight 0 packing 0 fee 0 royalty 0;");
        for (int k = 6; k <= 10; k++) due("told as 0: sale(0, " + k + ")", Check.sale(x, 0, k), 0);
        fault(2, ahead + SALE + " fee 0 |fee 0;");
        Check.says("EXTRA: uses ASSIST, each ASSIST once");
        String four = P + G + times(4, "assist m# worth 5 first;");
        x = Check.told(four + SALE + " uses md uses mb uses ma uses mc;");
        due("all four", Check.sale(x, 0, 11), 15);
        for (String one : List.of("ma", "mb", "mc", "md")) {
            fault(2, four + SALE + " uses ma uses mb uses mc uses md uses |" + one + ";");
            fault(2, four + SALE + " uses " + one + " uses |" + one + ";");
        }
        x = Check.told(four + SALE + ";sale sb ga pa pb pieces 1 price 1 day 1 uses md;");
        due("none", Check.sale(x, 0, 11), 0);
        due("the last one", Check.sale(x, 1, 11), 8);
    }

    // ---- NAMES

    private static final String[] GIVING = {"party #", "good # group 1 land 1", "assist # worth 1 first", "sale # ga pa pb pieces 1 price 1 day 1"};
    private static final String[] OF_EACH = {"pa", "ga", "mo", "sa"};

    private static void namesThatCannotBe() {
        Check.says("A NAME is a WORD, none of those here");
        String ahead = P + G + A + SALE + ";";
        for (String word : Model.WORDS) {
            for (String line : GIVING) fault(1, ahead + line.replace("#", "|" + word) + ";");
            fault(1, ahead + "kin |" + word + " pa;");
            fault(1, ahead + "kin pa |" + word + ";");
            fault(1, ahead + "made |" + word + " cost 1 profit 1;");
            if (word.length() < 7) taken(ahead + "party " + word + "x;", 9);
            if (word.length() > 2) taken(ahead + "party " + word.substring(1) + ";", 9);
        }
        due("words", Model.WORDS.size(), 30);
    }

    private static void namesAlike() {
        Check.says("no two NAMES are alike, of whatever sort");
        String ahead = P + G + A + SALE + ";";
        for (String line : GIVING) {
            for (String name : OF_EACH) fault(2, ahead + line.replace("#", "|" + name) + ";");
            for (String name : new String[] {"pb", "pc", "gb", "de"}) fault(2, ahead + line.replace("#", "|" + name) + ";");
            taken(ahead + line.replace("#", "new") + ";", 9);
        }
        WorthLadder x = Check.told(ahead);
        due("NAMES of a TEXT ahead may be given anew", Check.tell(x, "party sa;party mo;good pa group 1 land 1;assist ga worth 1 first;"), 4);
    }

    private static void namesAhead() {
        Check.says("PARTY, GOOD, ASSIST: a NAME told of one ahead");
        String ahead = P + G + A + SALE + ";";
        String[] needing = {"kin # pc", "kin pc #", "sale sz # pa pb pieces 1 price 1 day 1", "sale sz ga # pb pieces 1 price 1 day 1",
            "sale sz ga pb # pieces 1 price 1 day 1", "sale sz ga pa pb pieces 1 price 1 day 1 uses #", "resold # pieces 1 price 1 day 1", "made # cost 1 profit 1"};
        int[] sorts = {0, 0, 1, 0, 0, 2, 1, 1};
        for (int i = 0; i < needing.length; i++) {
            for (int sort = 0; sort < 4; sort++) {
                if (sort == sorts[i]) taken(ahead + needing[i].replace("#", OF_EACH[sort]) + ";", 9);
                else fault(3, ahead + needing[i].replace("#", "|" + OF_EACH[sort]) + ";");
            }
            fault(3, ahead + needing[i].replace("#", "|none") + ";");
            fault(1, ahead + needing[i].replace("#", "|5") + ";");
            String later = GIVING[sorts[i]].replace("#", "later") + ";";
            fault(3, ahead + needing[i].replace("#", "|later") + ";" + later);
            taken(ahead + later + needing[i].replace("#", "later") + ";", 10);
        }
        fault(3, ahead + "sale sz |sz pa pb pieces 1 price 1 day 1;");
        WorthLadder x = Check.told(ahead);
        due("a NAME of a TEXT ahead is none told", Check.tell(x, "kin pa pb;"), Check.fault(4, 3));
    }

    /** As many NAMES as there may be: none is lost, each is known for what it is, and none leads astray behind a FAULT. */
    private static void allNames() {
        Check.says("no two NAMES are alike; a NAME told of one ahead: 26 of them, as many as there may be");
        String rest = times(6, "good g# group1land1;") + times(4, "assist m# worth1first;") + times(10, "sale s# gf pa pe pieces1price1day1;");
        String all = times(6, "party p#;") + rest;
        String fewer = times(5, "party p#;") + rest;
        taken(all, 26);
        for (String sort : new String[] {"p", "g", "m", "s"}) {
            int size = sort.equals("p") ? 5 : sort.equals("g") ? 6 : sort.equals("m") ? 4 : 10;
            for (int i = 0; i < size; i++) {
                String name = sort + (char) ('a' + i);
                fault(2, fewer + "party |" + name + ";");
                if (sort.equals("g")) taken(all + "made " + name + " cost 1 profit 1;", 27);
                else fault(3, all + "made |" + name + " cost 1 profit 1;");
                if (sort.equals("p")) taken(all + "kin " + name + " pf;", 27);
                else fault(3, all + "kin |" + name + " pf;");
            }
        }
        String last = times(6, "party p#;") + times(5, "good g# group1land1;") + times(4, "assist m# worth1first;") + times(10, "sale s# ge pa pe pieces1price1day1;") + "good gf group1land1;";
        taken(last + "resold gf pieces1price1day1;", 27);
        Check.says("what a TEXT ahead told is gone: by, made, EXTRAS");
        String short1 = "party pa;party pb;good ga group 1 land 1;assist mo worth 5 %s;sale sa ga pa pb pieces 1 price 1 day 1%s;%s";
        WorthLadder x = Check.told(String.format(short1, "by 7", " bound royalty 1 fee 1 packing 1 freight 1 uses mo", "made ga cost 5 profit 5;"));
        due("told anew", Check.tell(x, String.format(short1, "first", "", "")), 5);
        due("first", x.assist(0, 1), 0);
        for (int k = 6; k <= 11; k++) due("sale(0, " + k + ")", Check.sale(x, 0, k), 0);
        due("not made", x.by(0, 5), -2 - 51);
    }

    private static void wordsOutOfPlace() {
        Check.says("a LINE begins with none but its WORD, an EXTRA too");
        String ahead = P + G + A;
        List<String> lines = List.of("party", "kin", "good", "assist", "sale", "resold", "made", "band", "near", "window", "margin", "duty");
        List<String> extras = List.of("bound", "royalty", "fee", "packing", "freight", "uses");
        for (String word : Model.WORDS) {
            if (!lines.contains(word)) fault(1, ahead + "|" + word + " 5;");
            if (!extras.contains(word)) fault(1, ahead + SALE + " |" + word + " 5;");
            if (lines.contains(word)) fault(1, ahead + word + "|");
        }
        for (String name : OF_EACH) {
            fault(1, ahead + SALE + ";|" + name + " 5;");
            fault(1, ahead + SALE + " |" + name + " 5;");
        }
    }

    // ---- FAULTS

    private static void leastPlace() {
        Check.says("FAULTS, the one whose place is least");
        String ahead = "party pa;party pb;party pc;party pd;party pe;party pf;";
        String[] faulty = {"kin pa |A;", "kin pa |;", "kin pa |abcdefgh;", "good |pa group 1 land 1;", "kin pa |zz;", "kin pa |pa;", "margin |91;", "|party pg;"};
        int[] kinds = {1, 1, 1, 2, 3, 4, 4, 5};
        for (int i = 0; i < faulty.length; i++) {
            fault(kinds[i], ahead + faulty[i]);
            for (String next : faulty) fault(kinds[i], ahead + faulty[i] + next.replace("|", ""));
        }
        // Two in one LINE.
        fault(3, ahead + "kin |zz zz;");
        fault(3, ahead + "kin |zz A;");
        fault(1, ahead + "kin |A zz;");
        fault(2, "near 5;|near 51;");
        fault(4, "near |51 5;");
        fault(4, "band from |1 less 91;");
        fault(4, "good ga group |10 land 10;");
        fault(1, "good ga |land 10 group 1;");

        Check.says("FAULTS, of one place the one that stands first here");
        // A second near is told again (2) and one LINE more than there may be (5).
        for (String rule : List.of("near", "window", "margin", "duty")) fault(2, rule + " 5;|" + rule + " 5;");
    }

    /** Where the TOKENS of a text end that has one blank at most between them. */
    private static List<Integer> ends(String text) {
        List<Integer> ends = new ArrayList<>();
        for (int i = 1; i <= text.length(); i++) {
            char c = text.charAt(i - 1);
            char next = i < text.length() ? text.charAt(i) : ' ';
            boolean isOne = c != ' ' && (c == ';' || next == ' ' || next == ';');
            if (isOne) ends.add(i);
        }
        return ends;
    }

    /** A text with every sort of LINE; ! stands where a LINE may end too. */
    private static final String ALL_LINES = "party pa;party pb;kin pa pb;good ga group 1 land 2;assist mo worth 5 first;assist de worth 6 by 7;"
        + "sale sa ga pa pb pieces 1 price 2 day 3! bound! royalty 4! fee 5! packing 6! freight 7! uses mo! uses de;"
        + "resold ga pieces 1 price 2 day 3;made ga cost 4 profit 5;band from 6 less 7;near 8;window 9;margin 10;duty 11;";

    private static void theEnd() {
        Check.says("the TOKEN with which no TEXT goes on (the end: how many bytes there are)");
        String text = ALL_LINES.replace("!", "");
        int lines = 0;
        for (int end : ends(text)) {
            boolean isLine = text.charAt(end - 1) == ';';
            if (isLine) lines++;
            WorthLadder x = new WorthLadder();
            Check.lay(x, text);
            due("text(" + end + ")", x.text(end), isLine ? lines : Check.fault(end, 1));
            String cut = text.substring(0, end);
            due("'" + cut + "' and blanks", told(cut + " \n "), isLine ? lines : Check.fault(end + 3, 1));
            // What is no TOKEN stands for nothing, wherever it is: not for a NAME, a NUMBER, a ; either.
            for (String odd : new String[] {"A", "abcdefgh", "12345", "abcdefgh;", "12345;", "abcdefgh near 5;"}) {
                due("'" + cut + "' and '" + odd + "'", told(cut + " " + odd), Check.fault(end + 1, 1));
            }
        }
        due("LINES", lines, 14);

        Check.says("the TOKEN with which no TEXT goes on");
        for (int end : ends(text)) {
            String cut = text.substring(0, end);
            // None but 'band' goes on with 'from', and then a NUMBER is missing.
            int place = cut.endsWith("band") ? end + 5 : end + 1;
            due("'" + cut + "' and 'from'", told(cut + " from"), Check.fault(place, 1));
            if (!mayEnd(cut)) due("'" + cut + "' and ';'", told(cut + ";"), Check.fault(end, 1));
        }
    }

    private static boolean mayEnd(String cut) {
        int at = 0;
        for (int left = cut.length(); left > 0; at++) if (ALL_LINES.charAt(at) != '!') left--;
        return at < ALL_LINES.length() && (ALL_LINES.charAt(at) == '!' || ALL_LINES.charAt(at) == ';');
    }
}
