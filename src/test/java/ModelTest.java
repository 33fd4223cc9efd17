import java.util.ArrayList;
import java.util.List;
import java.util.NoSuchElementException;
import java.util.Random;

/** Long runs of calls by chance (the same ones each time) on WorthLadder and on Model: all answers must be alike. */
public final class ModelTest {
    private final Random chance;
    private final WorthLadder x = new WorthLadder();
    private final Model m = new Model();
    private final StringBuilder run = new StringBuilder();

    private final boolean isEdgy;

    private ModelTest(long seed) {
        chance = new Random(seed);
        isEdgy = chance.nextInt(3) == 0;
    }

    public static void main(String[] args) {
        int runs = args.length > 0 ? Integer.parseInt(args[0]) : 600;
        long first = args.length > 1 ? Long.parseLong(args[1]) : 1;
        for (long seed = first; seed < first + runs && Check.wrongSoFar() == 0; seed++) {
            ModelTest t = new ModelTest(seed);
            t.go();
            if (Check.wrongSoFar() != 0) System.out.println("seed " + seed + ":" + t.run);
        }
        Check.finish();
    }

    private int up(int n) { return chance.nextInt(n); }

    private int from(int least, int most) { return least + up(most - least + 1); }

    private boolean in(int n) { return up(n) == 0; }

    /** In one run of three numbers stand at their bounds more often than between them. */
    private int bounded(int least, int most, int usual) {
        if (!isEdgy || in(2)) return usual;
        int[] edges = {least, least, least + 1, most - 1, most, most, (least + most) / 2};
        return edges[up(edges.length)];
    }

    /** The same for calls, which may go beyond a bound. */
    private int asked(int least, int most, int usual) {
        return isEdgy && in(6) ? in(2) ? least - 1 : most + 1 : bounded(least, most, usual);
    }

    // ---- texts

    private static final String[] SOME = {"party", "kin", "good", "group", "land", "assist", "worth", "first", "by", "sale", "pieces",
        "price", "day", "resold", "made", "cost", "profit", "band", "from", "less", "near", "window", "margin", "duty", "bound",
        "royalty", "fee", "packing", "freight", "uses", ";", "7", "0", "9999", "10000", "12345", "pa", "pb", "ga", "gb", "sa", "zz",
        "abcdefg", "abcdefgh", "A", "-", "51", "100", "91", "999", "1000", "\n", "\t", "mo", ";;"};

    private String party(int i) { return "p" + (char) ('a' + i); }
    private String good(int i) { return "g" + (char) ('a' + i); }
    private String assist(int i) { return "m" + (char) ('a' + i); }

    private String text() {
        List<String> lines = new ArrayList<>();
        int parties = from(2, in(12) ? 7 : 6);
        int goods = from(1, in(12) ? 7 : 5);
        int assists = in(12) ? 5 : up(4);
        for (int i = 0; i < parties; i++) lines.add("party " + party(i));
        for (int i = up(in(10) ? 8 : 4); i > 0; i--) {
            int a = up(parties);
            lines.add("kin " + party(a) + " " + party(in(20) ? a : (a + 1 + up(parties - 1)) % parties));
        }
        int spread = in(3) ? 3 : 2;
        for (int i = 0; i < goods; i++) lines.add("good " + good(i) + " group " + from(1, spread) + " land " + from(1, 2));
        for (int i = 0; i < assists; i++) lines.add("assist " + assist(i) + " worth " + amount(1) + (in(3) ? " first" : " by " + bounded(1, 9999, from(1, 120))));
        int sales = from(1, in(10) ? 11 : 9);
        int days = in(2) ? 20 : 80;
        int price = from(10, 200);
        for (int i = 0; i < sales; i++) lines.add(sale(i, parties, goods, assists, days, price));
        for (int i = up(in(8) ? 14 : 6); i > 0; i--) {
            lines.add("resold " + good(up(goods)) + " pieces " + bounded(1, 9999, from(1, 9)) + " price " + bounded(1, 9999, price + from(0, 4) * 5)
                + " day " + bounded(0, 999, up(days * 2)));
        }
        for (int i = 0; i < goods; i++) if (in(4)) {
            lines.add("made " + good(i) + " cost " + bounded(1, 9999, from(price / 2 + 1, price + 20)) + " profit " + bounded(0, 99, up(30)));
        }
        int at = 1;
        for (int i = up(in(10) ? 6 : 4); i > 0; i--) lines.add("band from " + (at += from(1, 25)) + " less " + bounded(0, 90, in(4) ? from(0, 90) : up(15)));
        if (in(3)) lines.add("near " + bounded(0, 50, up(51)));
        if (in(3)) lines.add("window " + bounded(1, 999, from(1, 40)));
        if (in(3)) lines.add("margin " + bounded(0, 90, up(91)));
        if (in(3)) lines.add("duty " + bounded(0, 99, up(100)));
        if (in(8)) lines.add(up(lines.size()), lines.get(up(lines.size())));
        if (in(8)) lines.add(lines.remove(up(lines.size())));
        String gap = in(6) ? "\n" : "";
        StringBuilder text = new StringBuilder();
        for (String l : lines) if (text.length() + l.length() < 890) text.append(l).append(in(30) ? " ;" : ";").append(gap);
        return in(4) ? spoilt(text) : text.toString();
    }

    private int amount(int least) { return bounded(least, 9999, in(10) ? from(1, 9999) : from(1, 300)); }

    private String sale(int i, int parties, int goods, int assists, int days, int price) {
        int a = up(parties);
        StringBuilder t = new StringBuilder("sale s" + (char) ('a' + i) + (in(9) ? "long" : "") + " " + good(up(goods)));
        t.append(" ").append(party(a)).append(" ").append(party((a + 1 + up(parties - 1)) % parties));
        t.append(" pieces ").append(bounded(1, 9999, in(15) ? from(1, 9999) : from(1, 60)));
        t.append(" price ").append(bounded(1, 9999, in(15) ? from(1, 9999) : price + up(15)));
        t.append(" day ").append(bounded(0, 999, in(25) ? up(1000) : up(days)));
        if (in(6)) t.append(" bound");
        if (in(5)) t.append(" royalty ").append(bounded(0, 99, up(in(5) ? 100 : 10)));
        if (in(6)) t.append(" fee ").append(amount(0));
        if (in(6)) t.append(" packing ").append(amount(0));
        if (in(6)) t.append(" freight ").append(amount(0));
        for (int k = 0; k < assists; k++) if (in(3)) t.append(" uses ").append(assist(in(12) ? up(assists) : k));
        return t.toString();
    }

    private String spoilt(StringBuilder text) {
        for (int i = from(1, 2); i > 0 && text.length() > 0; i--) {
            int at = up(text.length());
            switch (up(5)) {
                case 0: text.deleteCharAt(at); break;
                case 1: text.insert(at, SOME[up(SOME.length)]); break;
                case 2: text.setCharAt(at, (char) up(256)); break;
                case 3: text.setLength(at); break;
                default: {
                    int start = text.lastIndexOf(" ", at) + 1;
                    int end = text.indexOf(" ", at);
                    if (end >= start) text.replace(start, end, SOME[up(SOME.length)]);
                }
            }
        }
        if (text.length() > 900) text.setLength(900);
        return text.toString();
    }

    private void tell(String text) {
        while (text.length() % 20 != 0 && in(2) && text.length() < 900) text += " ";
        int[] v = Check.numbers(text);
        for (int i = 0; i < v.length; i += 5) {
            due("feed", x.feed(v[i], v[i + 1], v[i + 2], v[i + 3], v[i + 4]), m.feed(v[i], v[i + 1], v[i + 2], v[i + 3], v[i + 4]));
        }
        int n = in(20) ? text.length() + from(-2, 22) : text.length();
        run.append("\ntext '").append(text).append("' ").append(n);
        due("text", x.text(n), m.text(n));
    }

    // ---- calls

    private void due(String call, long got, long want) { Check.due(call, got, want); }

    private void go() {
        for (int texts = from(1, 2); texts > 0; texts--) {
            tell(text());
            for (int i = 0; i < 25 && Check.wrongSoFar() == 0; i++) {
                act();
                ask();
            }
            askAll();
        }
    }

    private static final int[] RULE_MOST = {50, 999, 90, 99};

    private int sale() { return in(15) ? odd() : up(Math.max(1, m.count(3))); }

    private int odd() {
        int[] odd = {-1, -2, -3, Integer.MIN_VALUE, Integer.MAX_VALUE, 4, 6, 7, 10, 12, 13, 14, 100, 900, 9999, 10000};
        return odd[up(odd.length)];
    }

    private void act() {
        int a, b, c, d;
        boolean is = in(2);
        switch (up(14)) {
            case 0: case 1: a = sale(); b = in(9) ? odd() : asked(1, 9999, in(3) ? from(1, 9999) : from(10, 230));
                log("price", a, b); due("price", x.price(a, b), m.price(a, b)); break;
            case 2: a = sale(); log("bind", a, is ? 1 : 0); Check.due("bind", x.bind(a, is), m.bind(a, is)); break;
            case 3: case 4: a = in(15) ? odd() : up(6); b = in(15) ? odd() : up(6);
                log("relate", a, b, is ? 1 : 0); Check.due("relate", x.relate(a, b, is), m.relate(a, b, is)); break;
            case 5: case 6: a = in(15) ? odd() : up(4); b = in(9) ? odd() : asked(a == 1 ? 1 : 0, RULE_MOST[Math.floorMod(a, 4)], up(a == 1 ? 200 : 52));
                log("rule", a, b); due("rule", x.rule(a, b), m.rule(a, b)); break;
            case 7: log("turn"); due("turn", x.turn(), m.turn()); break;
            case 8: a = in(15) ? odd() : up(5); b = in(15) ? odd() : asked(1, 9999, from(1, 9));
                c = in(15) ? odd() : asked(1, 9999, from(10, 220)); d = in(15) ? odd() : asked(0, 999, up(120));
                log("resell", a, b, c, d); due("resell", x.resell(a, b, c, d), m.resell(a, b, c, d)); break;
            case 9: a = in(15) ? odd() : up(4); b = in(6) ? odd() : asked(0, 9999, in(4) ? 0 : up(120));
                log("spread", a, b); due("spread", x.spread(a, b), m.spread(a, b)); break;
            case 10: a = in(15) ? odd() : up(3); b = in(9) ? odd() : asked(0, 90, up(92));
                log("lessen", a, b); due("lessen", x.lessen(a, b), m.lessen(a, b)); break;
            case 11: case 12: log("undo"); due("undo", x.undo(), m.undo()); break;
            default: a = in(9) ? odd() : up(2);
                log("keep", a, is ? 1 : 0); Check.due("keep", x.keep(a, is), m.keep(a, is)); break;
        }
    }

    private void log(String call, int... args) {
        run.append("\n").append(call);
        for (int a : args) run.append(" ").append(a);
    }

    private void ask() {
        int s = sale();
        int k = in(6) ? odd() : from(-1, 7);
        due("worth " + s, x.worth(s), m.worth(s));
        due("why " + s + " " + k, x.why(s, k), m.why(s, k));
        due("test " + s + " " + k, x.test(s, k), m.test(s, k));
        due("by " + s + " " + k, x.by(s, k), m.by(s, k));
        due("base " + s + " " + k, x.base(s, k), m.base(s, k));
        due("count " + k, x.count(k), m.count(k));
        due("rests " + s, x.rests(s), m.rests(s));
        due("prices " + s + " " + k, x.prices(s, k), m.prices(s, k));
        due("report " + k, x.report(k), m.report(k));
    }

    private long saleOfModel(int sale, int what) {
        try {
            return m.sale(sale, what);
        } catch (NoSuchElementException e) {
            return Check.THROWN;
        }
    }

    private void askAll() {
        for (int i = -1; i <= 14; i++) due("count " + i, x.count(i), m.count(i));
        for (int s = -1; s <= m.count(3); s++) {
            for (int k = -2; k <= 13; k++) {
                due("sale " + s + " " + k, Check.sale(x, s, k), saleOfModel(s, k));
                due("why " + s + " " + k, x.why(s, k), m.why(s, k));
                due("test " + s + " " + k, x.test(s, k), m.test(s, k));
            }
            for (int k = -1; k <= 7; k++) {
                due("by " + s + " " + k, x.by(s, k), m.by(s, k));
                due("base " + s + " " + k, x.base(s, k), m.base(s, k));
            }
            for (int a = -1; a <= 5; a++) due("share " + a + " " + s, x.share(a, s), m.share(a, s));
            for (int k = -1; k <= 3; k++) due("prices " + s + " " + k, x.prices(s, k), m.prices(s, k));
            due("own " + s, x.own(s), m.own(s));
            due("worth " + s, x.worth(s), m.worth(s));
            due("method " + s, x.method(s), m.method(s));
            due("passes " + s, x.passes(s), m.passes(s));
            due("needs " + s, x.needs(s), m.needs(s));
            due("rests " + s, x.rests(s), m.rests(s));
            due("turned " + s, x.turned(s), m.turned(s));
            due("due " + s, x.due(s), m.due(s));
        }
        for (int i = -1; i <= 13; i++) {
            for (int k = -1; k <= 4; k++) {
                due("resold " + i + " " + k, x.resold(i, k), m.resold(i, k));
                due("band " + i + " " + k, x.band(i, k), m.band(i, k));
                due("assist " + i + " " + k, x.assist(i, k), m.assist(i, k));
            }
            for (int k = -1; k <= 7; k++) {
                due("kin " + i + " " + k, x.kin(i, k), m.kin(i, k));
                due("like " + i + " " + k, x.like(i, k), m.like(i, k));
            }
            due("rest " + i, x.rest(i), m.rest(i));
            due("all " + i, x.all(i), m.all(i));
        }
        due("dues", x.dues(), m.dues());
        String report = m.reported();
        due("report -1", x.report(-1), report.length());
        for (int i = 0; i < report.length(); i += 1 + up(9)) due("report " + i, x.report(i), report.charAt(i));
        due("report at its end", x.report(report.length()), -2);
    }
}
