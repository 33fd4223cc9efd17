import java.util.ArrayList;
import java.util.Comparator;
import java.util.HashMap;
import java.util.LinkedHashMap;
import java.util.List;
import java.util.Map;
import java.util.NoSuchElementException;
import java.util.Set;

/**
 * The document once more, in the plainest way and with the whole Java library: slow, by trying everything out.
 * ModelTest holds WorthLadder against it. It shares no code and no way of counting with the class.
 */
final class Model {
    static final int NONE = -1;

    static final class Good { String name; int group, land, cost, profit; boolean made; }
    static final class Assist { String name; int worth, by; }
    static final class Row { int good, pieces, price, day; }
    static final class Band { int from, less; }
    static final class Sale {
        String name;
        int good, sells, buys, pieces, price, day;
        boolean bound;
        Map<String, Integer> extras = new HashMap<>();
        List<Integer> uses = new ArrayList<>();
        int extra(String what) { return extras.getOrDefault(what, 0); }
    }

    static final class State {
        List<String> parties = new ArrayList<>();
        List<int[]> pairs = new ArrayList<>();
        List<Good> goods = new ArrayList<>();
        List<Assist> assists = new ArrayList<>();
        List<Sale> sales = new ArrayList<>();
        List<Row> rows = new ArrayList<>();
        List<Band> bands = new ArrayList<>();
        int[] rules = {5, 30, 20, 10};
        boolean turned;

        State copy() {
            State c = new State();
            c.parties.addAll(parties);
            for (int[] p : pairs) c.pairs.add(p.clone());
            c.goods.addAll(goods);
            for (Assist a : assists) { Assist b = new Assist(); b.name = a.name; b.worth = a.worth; b.by = a.by; c.assists.add(b); }
            for (Sale s : sales) c.sales.add(copyOf(s));
            c.rows.addAll(rows);
            for (Band b : bands) { Band d = new Band(); d.from = b.from; d.less = b.less; c.bands.add(d); }
            c.rules = rules.clone();
            c.turned = turned;
            return c;
        }

        static Sale copyOf(Sale s) {
            Sale t = new Sale();
            t.name = s.name; t.good = s.good; t.sells = s.sells; t.buys = s.buys;
            t.pieces = s.pieces; t.price = s.price; t.day = s.day; t.bound = s.bound;
            t.extras.putAll(s.extras);
            t.uses.addAll(s.uses);
            return t;
        }

        State without(Sale gone) {
            State c = copy();
            c.sales.remove(sales.indexOf(gone));
            return c;
        }

        // ---- terms, part 2

        boolean kin(int a, int b) { return kin(a, b, new ArrayList<>()); }

        private boolean kin(int a, int b, List<Integer> seen) {
            if (a == b) return true;
            seen.add(a);
            for (int[] p : pairs) {
                int o = p[0] == a ? p[1] : p[1] == a ? p[0] : NONE;
                if (o != NONE && !seen.contains(o) && kin(o, b, seen)) return true;
            }
            return false;
        }

        boolean similar(int a, int b) {
            return a != b && goods.get(a).group == goods.get(b).group && goods.get(a).land == goods.get(b).land;
        }

        int level(Sale s) { return (int) bands.stream().filter(b -> b.from <= s.pieces).count(); }

        int less(Sale s) { int l = level(s); return l == 0 ? 0 : bands.get(l - 1).less; }

        Map<Sale, Integer> shares(int assist) {
            Assist a = assists.get(assist);
            List<Sale> users = new ArrayList<>();
            for (Sale s : sales) if (s.uses.contains(assist)) users.add(s);
            users.sort(Comparator.comparingInt((Sale s) -> s.day));
            Map<Sale, Integer> shares = new LinkedHashMap<>();
            int used = 0;
            for (Sale s : users) {
                if (a.by == 0) {
                    shares.put(s, shares.isEmpty() ? a.worth : 0);
                } else {
                    int until = Math.min(a.by, used + s.pieces);
                    shares.put(s, a.worth * (until - used) / a.by);
                    used = until;
                }
            }
            return shares;
        }

        int sharesOf(Sale s) {
            int sum = 0;
            for (int a = 0; a < assists.size(); a++) sum += shares(a).getOrDefault(s, 0);
            return sum;
        }

        long own(Sale s) {
            long goods = (long) s.price * s.pieces;
            return goods + goods * s.extra("royalty") / 100 + s.extra("fee") + s.extra("packing") + s.extra("freight") + sharesOf(s);
        }

        long brought(Sale to, Sale from) {
            return own(from) * to.pieces * (100 - less(to)) / ((long) from.pieces * (100 - less(from)));
        }

        boolean inWindow(Sale a, Sale b) { return Math.abs(a.day - b.day) <= rules[1]; }

        List<Long> tests(Sale s) {
            List<Long> tests = new ArrayList<>();
            for (Sale o : sales) {
                if (o == s || o.bound || kin(o.sells, o.buys)) continue;
                if (o.good != s.good && !similar(o.good, s.good)) continue;
                if (inWindow(s, o)) tests.add(brought(s, o));
            }
            for (int m = 4; m <= 5; m++) { Answer a = by(s, m); if (a.why == 0) tests.add(a.worth); }
            return tests;
        }

        boolean passes(Sale s, List<Long> tests, int near) {
            long own = own(s);
            for (long t : tests) if (Math.abs(own - t) * 100 <= near * t) return true;
            return false;
        }

        Answer by(Sale s, int method) {
            switch (method) {
                case 1: return byPrice(s);
                case 2: case 3: return byWindow(s, method);
                case 4: return byResold(s);
                case 5: return byMaking(s);
                default: {
                    List<Sale> from = new ArrayList<>();
                    for (Sale o : sales) {
                        if (o != s && goods.get(o.good).group == goods.get(s.good).group && byPrice(o).why == 0) from.add(o);
                    }
                    return least(s, from, 61);
                }
            }
        }

        private Answer byPrice(Sale s) {
            if (s.bound) return Answer.failed(11);
            if (kin(s.sells, s.buys)) {
                List<Long> tests = tests(s);
                if (tests.isEmpty()) return Answer.failed(12);
                if (!passes(s, tests, rules[0])) return Answer.failed(13);
            }
            return Answer.of(own(s), NONE);
        }

        private Answer byWindow(Sale s, int method) {
            List<Sale> all = new ArrayList<>();
            List<Sale> level = new ArrayList<>();
            for (Sale o : sales) {
                boolean fits = method == 2 ? o.good == s.good : similar(o.good, s.good);
                if (o == s || !fits || !inWindow(s, o) || byPrice(o).why != 0) continue;
                all.add(o);
                if (level(o) == level(s)) level.add(o);
            }
            return least(s, level.isEmpty() ? all : level, method == 2 ? 21 : 31);
        }

        private Answer least(Sale s, List<Sale> from, int why) {
            Answer best = Answer.failed(why);
            for (Sale o : from) {
                long w = brought(s, o);
                if (best.why != 0 || w < best.worth) best = Answer.of(w, sales.indexOf(o));
            }
            return best;
        }

        private Answer byResold(Sale s) {
            Map<Integer, Integer> same = new HashMap<>();
            Map<Integer, Integer> alike = new HashMap<>();
            for (Row r : rows) {
                if (r.day < s.day || r.day > s.day + 3 * rules[1]) continue;
                if (r.good == s.good) same.merge(r.price, r.pieces, Integer::sum);
                if (similar(r.good, s.good)) alike.merge(r.price, r.pieces, Integer::sum);
            }
            Map<Integer, Integer> sold = same.isEmpty() ? alike : same;
            if (sold.isEmpty()) return Answer.failed(41);
            int most = sold.values().stream().max(Integer::compare).get();
            int price = sold.keySet().stream().filter(p -> sold.get(p) == most).min(Integer::compare).get();
            return Answer.of((long) s.pieces * price * (100 - rules[2]) / (100 + rules[3]), price);
        }

        private Answer byMaking(Sale s) {
            Good g = goods.get(s.good);
            if (!g.made) return Answer.failed(51);
            return Answer.of((long) s.pieces * g.cost * (100 + g.profit) / 100 + s.extra("packing") + s.extra("freight") + sharesOf(s), NONE);
        }

        Climb climb(Sale s, boolean turned) {
            Climb c = new Climb();
            for (int m : turned ? new int[] {1, 2, 3, 5, 4, 6} : new int[] {1, 2, 3, 4, 5, 6}) {
                Answer a = by(s, m);
                if (a.why == 0) { c.method = m; c.worth = a.worth; return c; }
                c.whys.add(a.why);
            }
            return c;
        }
    }

    static final class Answer {
        long worth; int from = NONE; int why;
        static Answer of(long worth, int from) { Answer a = new Answer(); a.worth = worth; a.from = from; return a; }
        static Answer failed(int why) { Answer a = new Answer(); a.why = why; return a; }
    }

    static final class Climb { int method = -2; long worth = -2; List<Integer> whys = new ArrayList<>(); }

    // ---- the text

    static final Set<String> WORDS = Set.of("party", "kin", "good", "group", "land", "assist", "worth", "first", "by", "sale",
        "pieces", "price", "day", "resold", "made", "cost", "profit", "band", "from", "less", "near", "window", "margin", "duty",
        "bound", "royalty", "fee", "packing", "freight", "uses");

    static final class Fault extends RuntimeException {
        private static final long serialVersionUID = 1L;
        final int place, kind;
        Fault(int place, int kind) { this.place = place; this.kind = kind; }
    }

    static final class Parser {
        final String text;
        final State s = new State();
        final Map<String, String> sorts = new HashMap<>();
        final Map<String, Integer> told = new HashMap<>();
        final List<String> rules = new ArrayList<>();
        int at, place, lines;
        String token;

        Parser(String text) { this.text = text; }

        /** The next TOKEN into token, "" at the end. */
        void next() {
            while (at < text.length() && " \n".indexOf(text.charAt(at)) >= 0) at++;
            place = at;
            if (at == text.length()) { token = ""; return; }
            String rest = text.substring(at);
            String letters = rest.replaceAll("(?s)[^a-z].*", "");
            String digits = rest.replaceAll("(?s)[^0-9].*", "");
            token = rest.startsWith(";") ? ";" : letters + digits;
            if (token.isEmpty() || letters.length() > 7 || digits.length() > 4) throw new Fault(place, 1);
            at += token.length();
        }

        Fault fault(int kind) { return new Fault(place, kind); }

        void parse() {
            for (next(); !token.isEmpty(); next()) {
                line();
                lines++;
            }
        }

        void word(String w) { next(); if (!token.equals(w)) throw fault(1); }

        int number(int least, int most) {
            next();
            if (!token.matches("[0-9]+")) throw fault(1);
            int v = Integer.parseInt(token);
            if (v < least || v > most) throw fault(4);
            return v;
        }

        int number(String w, int least, int most) { word(w); return number(least, most); }

        void name() { next(); if (!token.matches("[a-z]+") || WORDS.contains(token)) throw fault(1); }

        String give(String sort, int number) {
            name();
            if (told.containsKey(token)) throw fault(2);
            told.put(token, number);
            sorts.put(token, sort);
            return token;
        }

        int told(String sort) {
            name();
            if (!sort.equals(sorts.get(token))) throw fault(3);
            return told.get(token);
        }

        void room(int have, int most) { if (have == most) throw fault(5); }

        void line() {
            switch (token) {
                case "party": room(s.parties.size(), 6); s.parties.add(give("party", s.parties.size())); break;
                case "kin": {
                    room(s.pairs.size(), 6);
                    int a = told("party");
                    int b = told("party");
                    for (int[] p : s.pairs) if (p[0] == a && p[1] == b || p[0] == b && p[1] == a) throw fault(2);
                    if (a == b) throw fault(4);
                    s.pairs.add(new int[] {a, b});
                    break;
                }
                case "good": {
                    room(s.goods.size(), 6);
                    Good g = new Good();
                    g.name = give("good", s.goods.size());
                    g.group = number("group", 0, 9);
                    g.land = number("land", 0, 9);
                    s.goods.add(g);
                    break;
                }
                case "assist": {
                    room(s.assists.size(), 4);
                    Assist a = new Assist();
                    a.name = give("assist", s.assists.size());
                    a.worth = number("worth", 1, 9999);
                    next();
                    if (token.equals("by")) a.by = number(1, 9999);
                    else if (!token.equals("first")) throw fault(1);
                    s.assists.add(a);
                    break;
                }
                case "sale": sale(); return;
                case "resold": {
                    room(s.rows.size(), 12);
                    Row r = new Row();
                    r.good = told("good");
                    r.pieces = number("pieces", 1, 9999);
                    r.price = number("price", 1, 9999);
                    r.day = number("day", 0, 999);
                    s.rows.add(r);
                    break;
                }
                case "made": {
                    Good g = s.goods.get(told("good"));
                    if (g.made) throw fault(2);
                    g.made = true;
                    g.cost = number("cost", 1, 9999);
                    g.profit = number("profit", 0, 99);
                    break;
                }
                case "band": {
                    room(s.bands.size(), 4);
                    Band b = new Band();
                    int ahead = s.bands.isEmpty() ? 1 : s.bands.get(s.bands.size() - 1).from;
                    b.from = number("from", ahead + 1, 9999);
                    b.less = number("less", 0, 90);
                    s.bands.add(b);
                    break;
                }
                case "near": rule(0, 0, 50); break;
                case "window": rule(1, 1, 999); break;
                case "margin": rule(2, 0, 90); break;
                case "duty": rule(3, 0, 99); break;
                default: throw fault(1);
            }
            word(";");
        }

        void rule(int i, int least, int most) {
            if (rules.contains(token)) throw fault(2);
            rules.add(token);
            s.rules[i] = number(least, most);
        }

        void sale() {
            room(s.sales.size(), 10);
            Sale x = new Sale();
            x.name = give("sale", s.sales.size());
            x.good = told("good");
            x.sells = told("party");
            x.buys = told("party");
            if (x.sells == x.buys) throw fault(4);
            x.pieces = number("pieces", 1, 9999);
            x.price = number("price", 1, 9999);
            x.day = number("day", 0, 999);
            for (next(); !token.equals(";"); next()) {
                String w = token;
                if (w.equals("uses")) {
                    int a = told("assist");
                    if (x.uses.contains(a)) throw fault(2);
                    x.uses.add(a);
                    continue;
                }
                if (!List.of("bound", "royalty", "fee", "packing", "freight").contains(w)) throw fault(1);
                if (x.extras.containsKey(w)) throw fault(2);
                x.extras.put(w, 1);
                if (w.equals("bound")) x.bound = true;
                else x.extras.put(w, number(0, w.equals("royalty") ? 99 : 9999));
            }
            s.sales.add(x);
        }
    }

    // ---- the face

    private String tape = "";
    private State s = new State();
    private final List<State> past = new ArrayList<>();
    private final State[] keeps = new State[2];

    private static boolean in(List<?> list, int i) { return i >= 0 && i < list.size(); }

    private void act() {
        past.add(s.copy());
        if (past.size() > 12) past.remove(0);
    }

    int feed(int a, int b, int c, int d, int e) {
        if (tape.length() > 880) return NONE;
        StringBuilder t = new StringBuilder(tape);
        for (int v : new int[] {a, b, c, d, e}) {
            for (int k = 3; k >= 0; k--) t.append((char) (v >>> 8 * k & 255));
        }
        tape = t.toString();
        return tape.length();
    }

    int text(int n) {
        if (n < 0 || n > tape.length()) return NONE;
        Parser p = new Parser(tape.substring(0, n));
        tape = "";
        try {
            p.parse();
        } catch (Fault f) {
            return -2 - (8 * f.place + f.kind);
        }
        s = p.s;
        past.clear();
        keeps[0] = keeps[1] = null;
        return p.lines;
    }

    int count(int what) {
        switch (what) {
            case 0: return s.parties.size();
            case 1: return s.goods.size();
            case 2: return s.assists.size();
            case 3: return s.sales.size();
            case 4: return s.rows.size();
            case 5: return s.bands.size();
            case 6: case 7: case 8: case 9: return s.rules[what - 6];
            case 10: return s.turned ? 1 : 0;
            case 11: return past.size();
            case 12: return tape.length();
            case 13: return s.pairs.size();
            default: return NONE;
        }
    }

    int sale(int sale, int what) {
        if (!in(s.sales, sale)) throw new NoSuchElementException();
        Sale x = s.sales.get(sale);
        switch (what) {
            case 0: return x.good;
            case 1: return x.sells;
            case 2: return x.buys;
            case 3: return x.pieces;
            case 4: return x.price;
            case 5: return x.day;
            case 6: return x.bound ? 1 : 0;
            case 7: return x.extra("royalty");
            case 8: return x.extra("fee");
            case 9: return x.extra("packing");
            case 10: return x.extra("freight");
            case 11: return x.uses.stream().mapToInt(a -> 1 << a).sum();
            case 12: return s.level(x);
            default: throw new NoSuchElementException();
        }
    }

    int resold(int row, int what) {
        if (!in(s.rows, row) || what < 0 || what > 3) return NONE;
        Row r = s.rows.get(row);
        return new int[] {r.good, r.pieces, r.price, r.day}[what];
    }

    int kin(int a, int b) { return !in(s.parties, a) || !in(s.parties, b) ? NONE : s.kin(a, b) ? 1 : 0; }

    int like(int a, int b) { return !in(s.goods, a) || !in(s.goods, b) ? NONE : a == b ? 1 : s.similar(a, b) ? 2 : 0; }

    int band(int b, int what) {
        if (!in(s.bands, b) || what < 0 || what > 1) return NONE;
        return what == 0 ? s.bands.get(b).from : s.bands.get(b).less;
    }

    int assist(int a, int what) {
        if (!in(s.assists, a) || what < 0 || what > 1) return NONE;
        return what == 0 ? s.assists.get(a).worth : s.assists.get(a).by;
    }

    int share(int a, int sale) {
        if (!in(s.assists, a) || !in(s.sales, sale)) return NONE;
        return s.shares(a).getOrDefault(s.sales.get(sale), 0);
    }

    int rest(int a) {
        if (!in(s.assists, a)) return NONE;
        return s.assists.get(a).worth - s.shares(a).values().stream().mapToInt(v -> v).sum();
    }

    long own(int sale) { return in(s.sales, sale) ? s.own(s.sales.get(sale)) : NONE; }

    long by(int sale, int method) {
        if (!in(s.sales, sale) || method < 1 || method > 6) return NONE;
        Answer a = s.by(s.sales.get(sale), method);
        return a.why != 0 ? -2 - a.why : a.worth;
    }

    int base(int sale, int method) {
        if (!in(s.sales, sale) || method < 2 || method > 6 || method == 5) return NONE;
        Answer a = s.by(s.sales.get(sale), method);
        return a.why != 0 ? -2 - a.why : a.from;
    }

    private Climb climb(int sale) { return s.climb(s.sales.get(sale), s.turned); }

    long worth(int sale) { return in(s.sales, sale) ? climb(sale).worth : NONE; }

    int method(int sale) { return in(s.sales, sale) ? climb(sale).method : NONE; }

    int why(int sale, int k) {
        if (!in(s.sales, sale) || k < -1) return NONE;
        List<Integer> whys = climb(sale).whys;
        return k == -1 ? whys.size() : k < whys.size() ? whys.get(k) : -2;
    }

    long test(int sale, int k) {
        if (!in(s.sales, sale) || k < -1) return NONE;
        List<Long> tests = s.tests(s.sales.get(sale));
        return k == -1 ? tests.size() : k < tests.size() ? tests.get(k) : -2;
    }

    int passes(int sale) {
        if (!in(s.sales, sale)) return NONE;
        return s.passes(s.sales.get(sale), s.tests(s.sales.get(sale)), s.rules[0]) ? 1 : 0;
    }

    int prices(int sale, int what) {
        if (!in(s.sales, sale) || what < 0 || what > 2) return -2;
        Sale x = State.copyOf(s.sales.get(sale));
        List<Long> tests = s.tests(s.sales.get(sale));
        long shares = s.sharesOf(s.sales.get(sale));
        long top = x.extra("fee") + x.extra("packing") + x.extra("freight") + shares;
        int count = 0, least = NONE, greatest = NONE;
        for (int p = 1; p <= 9999; p++) {
            long goods = (long) p * x.pieces;
            long own = goods + goods * x.extra("royalty") / 100 + top;
            boolean near = false;
            for (long t : tests) near |= Math.abs(own - t) * 100 <= s.rules[0] * t;
            if (!near) continue;
            count++;
            if (least == NONE) least = p;
            greatest = p;
        }
        return what == 0 ? count : what == 1 ? least : greatest;
    }

    int needs(int sale) {
        if (!in(s.sales, sale)) return NONE;
        List<Long> tests = s.tests(s.sales.get(sale));
        for (int near = 0; near <= 50; near++) if (s.passes(s.sales.get(sale), tests, near)) return near;
        return -2;
    }

    int rests(int sale) {
        if (!in(s.sales, sale)) return NONE;
        long worth = worth(sale);
        int bits = 0;
        for (int o = 0; o < s.sales.size(); o++) {
            if (o == sale) continue;
            State c = s.without(s.sales.get(o));
            if (c.climb(c.sales.get(o < sale ? sale - 1 : sale), c.turned).worth != worth) bits += 1 << o;
        }
        return bits;
    }

    long turned(int sale) { return in(s.sales, sale) ? s.climb(s.sales.get(sale), !s.turned).worth : NONE; }

    long due(int sale) { long w = worth(sale); return w < 0 ? w : w * s.rules[3] / 100; }

    long dues() {
        long sum = 0;
        for (int i = 0; i < s.sales.size(); i++) sum += Math.max(0, due(i));
        return sum;
    }

    int all(int method) {
        if (method < 0 || method > 6) return NONE;
        int bits = 0;
        for (int i = 0; i < s.sales.size(); i++) if (method(i) == (method == 0 ? -2 : method)) bits |= 1 << i;
        return bits;
    }

    String reported() {
        StringBuilder t = new StringBuilder();
        for (Sale x : s.sales) {
            Climb c = s.climb(x, s.turned);
            t.append(x.name).append(c.method < 0 ? " fails ; " : " by " + c.method + " worth " + c.worth + " ; ");
        }
        return t.toString();
    }

    int report(int i) {
        if (i < -1) return NONE;
        String t = reported();
        return i == -1 ? t.length() : i < t.length() ? t.charAt(i) : -2;
    }

    int price(int sale, int v) {
        if (!in(s.sales, sale) || v < 1 || v > 9999 || s.sales.get(sale).price == v) return NONE;
        act();
        int was = s.sales.get(sale).price;
        s.sales.get(sale).price = v;
        return was;
    }

    boolean bind(int sale, boolean is) {
        if (!in(s.sales, sale) || s.sales.get(sale).bound == is) return false;
        act();
        s.sales.get(sale).bound = is;
        return true;
    }

    boolean relate(int a, int b, boolean is) {
        if (!in(s.parties, a) || !in(s.parties, b) || a == b) return false;
        int[] pair = null;
        for (int[] p : s.pairs) if (p[0] == a && p[1] == b || p[0] == b && p[1] == a) pair = p;
        if (is == (pair != null) || is && s.pairs.size() == 6) return false;
        act();
        if (is) s.pairs.add(new int[] {a, b});
        else s.pairs.remove(pair);
        return true;
    }

    int rule(int what, int v) {
        if (what < 0 || what > 3) return NONE;
        if (v < (what == 1 ? 1 : 0) || v > new int[] {50, 999, 90, 99}[what] || s.rules[what] == v) return NONE;
        act();
        int was = s.rules[what];
        s.rules[what] = v;
        return was;
    }

    int turn() {
        act();
        s.turned = !s.turned;
        return s.turned ? 1 : 0;
    }

    int resell(int good, int pieces, int price, int day) {
        if (!in(s.goods, good) || pieces < 1 || pieces > 9999 || price < 1 || price > 9999 || day < 0 || day > 999) return NONE;
        if (s.rows.size() == 12) return NONE;
        act();
        Row r = new Row();
        r.good = good; r.pieces = pieces; r.price = price; r.day = day;
        s.rows.add(r);
        return s.rows.size() - 1;
    }

    int spread(int a, int by) {
        if (!in(s.assists, a) || by < 0 || by > 9999 || s.assists.get(a).by == by) return NONE;
        act();
        int was = s.assists.get(a).by;
        s.assists.get(a).by = by;
        return was;
    }

    int lessen(int b, int less) {
        if (!in(s.bands, b) || less < 0 || less > 90 || s.bands.get(b).less == less) return NONE;
        act();
        int was = s.bands.get(b).less;
        s.bands.get(b).less = less;
        return was;
    }

    int undo() {
        if (past.isEmpty()) return NONE;
        s = past.remove(past.size() - 1);
        return past.size();
    }

    boolean keep(int k, boolean back) {
        if (k < 0 || k > 1 || back && keeps[k] == null) return false;
        if (back) {
            s = keeps[k].copy();
            past.clear();
        } else {
            keeps[k] = s.copy();
        }
        return true;
    }
}
