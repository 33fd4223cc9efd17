import java.util.Arrays;
import java.util.NoSuchElementException;

/** What sales at a border are worth, by a ladder of six methods; the promises stand in ../shared/DOC.md. */
public final class WorthLadder {
    public static final int NONE = -1;

    // The second refusal, for calls in which NONE already means something.
    private static final int NOT_SO = -2;

    private static final int TAPE_MOST = 900;
    private static final int FEED_BYTES = 20;

    private static final int PARTIES_MOST = 6;
    private static final int PAIRS_MOST = 6;
    private static final int GOODS_MOST = 6;
    private static final int ASSISTS_MOST = 4;
    private static final int SALES_MOST = 10;
    private static final int RESALES_MOST = 12;
    private static final int BANDS_MOST = 4;
    private static final int NAMES_MOST = PARTIES_MOST + GOODS_MOST + ASSISTS_MOST + SALES_MOST;
    private static final int ACTS_MOST = 12;
    private static final int KEEPS = 2;

    private static final int DIGIT_MOST = 9;
    private static final int NUMBER_MOST = 9999;
    private static final int DAY_MOST = 999;
    private static final int PERCENT_MOST = 99;
    private static final int BAND_LEAST = 2;
    private static final int LESS_MOST = 90;
    private static final int HUNDRED = 100;

    // Places in World.tally: count() shows them under these very numbers.
    private static final int PARTIES = 0;
    private static final int GOODS = 1;
    private static final int ASSISTS = 2;
    private static final int SALES = 3;
    private static final int RESALES = 4;
    private static final int BANDS = 5;
    private static final int NEAR = 6;
    private static final int WINDOW = 7;
    private static final int MARGIN = 8;
    private static final int DUTY = 9;
    private static final int TURNED = 10;
    private static final int ACTS_LEFT = 11;
    private static final int TAPE_BYTES = 12;
    private static final int PAIRS = 13;
    private static final int TALLIES = 14;

    // Bounds of near, window, margin, duty, in the order of rule().
    private static final int[] RULE_LEAST = {0, 1, 0, 0};
    private static final int[] RULE_MOST = {50, 999, 90, 99};
    private static final int[] RULE_WITHOUT = {5, 30, 20, 10};
    private static final int NEAR_MOST = 50;

    // Columns of a sale's row: sale() shows them under these very numbers.
    private static final int GOOD = 0;
    private static final int SELLER = 1;
    private static final int BUYER = 2;
    private static final int PIECES = 3;
    private static final int PRICE = 4;
    private static final int DAY = 5;
    private static final int BOUND = 6;
    private static final int ROYALTY = 7;
    private static final int FEE = 8;
    private static final int PACKING = 9;
    private static final int FREIGHT = 10;
    private static final int USES = 11;
    private static final int SALE_COLUMNS = 12;
    private static final int LEVEL = 12;

    // Columns of a resold row, as resold() shows them.
    private static final int ROW_GOOD = 0;
    private static final int ROW_PIECES = 1;
    private static final int ROW_PRICE = 2;
    private static final int ROW_DAY = 3;
    private static final int ROW_COLUMNS = 4;

    // Columns of a good's row; a cost of 0 means that it is not made.
    private static final int GROUP = 0;
    private static final int LAND = 1;
    private static final int COST = 2;
    private static final int PROFIT = 3;
    private static final int GOOD_COLUMNS = 4;

    // Columns of a band's and of an assist's row, as band() and assist() show them.
    private static final int FROM = 0;
    private static final int LESS = 1;
    private static final int AMOUNT = 0;
    private static final int SPREAD = 1;
    private static final int PAIR_COLUMNS = 2;

    // The words of the grammar, numbered on from one text to the next; those of EXTRAS stand in the
    // order of a sale's columns from BOUND on, those of rules in the order of rule().
    private static final String LINE_WORDS = "party kin good assist sale resold made band near window margin duty";
    private static final String INNER_WORDS = "group land worth first by pieces price day cost profit from less";
    private static final String EXTRA_WORDS = "bound royalty fee packing freight uses";
    private static final int WORD_COUNT = 30;
    private static final int W_PARTY = 0;
    private static final int W_KIN = 1;
    private static final int W_GOOD = 2;
    private static final int W_ASSIST = 3;
    private static final int W_SALE = 4;
    private static final int W_RESOLD = 5;
    private static final int W_MADE = 6;
    private static final int W_BAND = 7;
    private static final int W_NEAR = 8;
    private static final int W_DUTY = 11;
    private static final int W_GROUP = 12;
    private static final int W_LAND = 13;
    private static final int W_WORTH = 14;
    private static final int W_FIRST = 15;
    private static final int W_BY = 16;
    private static final int W_PIECES = 17;
    private static final int W_PRICE = 18;
    private static final int W_DAY = 19;
    private static final int W_COST = 20;
    private static final int W_PROFIT = 21;
    private static final int W_FROM = 22;
    private static final int W_LESS = 23;
    private static final int W_BOUND = 24;
    private static final int W_ROYALTY = 25;
    private static final int W_USES = 29;

    // A word is held as a number whose digits, to this base, are its letters from 1 on.
    private static final int LETTER_BASE = 27;
    private static final int WORD_LONGEST = 7;
    private static final int NUMBER_LONGEST = 4;

    private static final int FAULT_FORM = 1;
    private static final int FAULT_AGAIN = 2;
    private static final int FAULT_UNTOLD = 3;
    private static final int FAULT_BOUNDS = 4;
    private static final int FAULT_MANY = 5;

    private static final int METHODS = 6;
    private static final int TESTS_MOST = SALES_MOST + 1;
    private static final int[] ORDER = {1, 2, 3, 4, 5, 6};
    private static final int[] ORDER_TURNED = {1, 2, 3, 5, 4, 6};

    private static final int WHY_BOUND = 11;
    private static final int WHY_NO_TEST = 12;
    private static final int WHY_NONE_NEAR = 13;

    private static final int ACT_PRICE = 0;
    private static final int ACT_BIND = 1;
    private static final int ACT_RELATE = 2;
    private static final int ACT_RULE = 3;
    private static final int ACT_TURN = 4;
    private static final int ACT_RESELL = 5;
    private static final int ACT_SPREAD = 6;
    private static final int ACT_LESSEN = 7;

    private final Tape tape = new Tape();
    private final World world = new World();
    private final World draft = new World();
    private final World[] kept = new World[KEEPS];
    private final Reader reader = new Reader(tape, draft);
    private final Ledger ledger = new Ledger(world);
    private final Ladder ladder = new Ladder(world, ledger);
    private final Spans spans = new Spans(world, ledger);
    private final Acts acts = new Acts();
    private final Page page = new Page();
    private int laidBits;

    public WorthLadder() {
        for (int k = 0; k < KEEPS; k++) {
            kept[k] = new World();
        }
    }

    public int feed(int a, int b, int c, int d, int e) {
        if (tape.size + FEED_BYTES > TAPE_MOST) {
            return NONE;
        }
        tape.add(a);
        tape.add(b);
        tape.add(c);
        tape.add(d);
        tape.add(e);
        return tape.size;
    }

    public int text(int n) {
        if (n < 0 || n > tape.size) {
            return NONE;
        }
        int lines = reader.read(n);
        tape.size = 0;
        if (lines >= 0) {
            world.take(draft);
            acts.clear();
            laidBits = 0;
        }
        return lines;
    }

    public int count(int what) {
        if (what < 0 || what >= TALLIES) {
            return NONE;
        }
        if (what == ACTS_LEFT) {
            return acts.size;
        }
        return what == TAPE_BYTES ? tape.size : world.tally[what];
    }

    public int sale(int sale, int what) throws NoSuchElementException {
        if (!world.has(SALES, sale) || what < 0 || what > LEVEL) {
            throw new NoSuchElementException();
        }
        return what == LEVEL ? world.levelOf(sale) : world.sale[sale][what];
    }

    public int resold(int row, int what) {
        if (!world.has(RESALES, row) || what < 0 || what >= ROW_COLUMNS) {
            return NONE;
        }
        return world.resale[row][what];
    }

    public int kin(int party, int other) {
        if (!world.has(PARTIES, party) || !world.has(PARTIES, other)) {
            return NONE;
        }
        ledger.look(NONE);
        return ledger.areKin(party, other) ? 1 : 0;
    }

    public int like(int good, int other) {
        if (!world.has(GOODS, good) || !world.has(GOODS, other)) {
            return NONE;
        }
        if (good == other) {
            return 1;
        }
        return world.areSimilar(good, other) ? 2 : 0;
    }

    public int band(int band, int what) {
        if (!world.has(BANDS, band) || what < 0 || what >= PAIR_COLUMNS) {
            return NONE;
        }
        return world.band[band][what];
    }

    public int assist(int assist, int what) {
        if (!world.has(ASSISTS, assist) || what < 0 || what >= PAIR_COLUMNS) {
            return NONE;
        }
        return world.assist[assist][what];
    }

    public int share(int assist, int sale) {
        if (!world.has(ASSISTS, assist) || !world.has(SALES, sale)) {
            return NONE;
        }
        ledger.look(NONE);
        return ledger.shares[assist][sale];
    }

    public int rest(int assist) {
        if (!world.has(ASSISTS, assist)) {
            return NONE;
        }
        ledger.look(NONE);
        int left = world.assist[assist][AMOUNT];
        for (int sale = 0; sale < world.tally[SALES]; sale++) {
            left -= ledger.shares[assist][sale];
        }
        return left;
    }

    public long own(int sale) {
        if (!world.has(SALES, sale)) {
            return NONE;
        }
        ledger.look(NONE);
        return ledger.owns[sale];
    }

    public long by(int sale, int method) {
        if (!world.has(SALES, sale) || method < 1 || method > METHODS) {
            return NONE;
        }
        ladder.look(NONE);
        ladder.ask(sale, method);
        return ladder.failure == 0 ? ladder.value : NOT_SO - ladder.failure;
    }

    public int base(int sale, int method) {
        boolean hasBase = method == 2 || method == 3 || method == 4 || method == 6;
        if (!world.has(SALES, sale) || !hasBase) {
            return NONE;
        }
        ladder.look(NONE);
        ladder.ask(sale, method);
        return ladder.failure == 0 ? ladder.source : NOT_SO - ladder.failure;
    }

    public long worth(int sale) {
        return worthInOrder(sale, isTurned());
    }

    public int method(int sale) {
        if (!world.has(SALES, sale)) {
            return NONE;
        }
        ladder.look(NONE);
        ladder.climb(sale, isTurned());
        return ladder.step == 0 ? NOT_SO : ladder.step;
    }

    public int why(int sale, int k) {
        if (!world.has(SALES, sale) || k < NONE) {
            return NONE;
        }
        ladder.look(NONE);
        ladder.climb(sale, isTurned());
        if (k == NONE) {
            return ladder.failures;
        }
        return k < ladder.failures ? ladder.reasons[k] : NOT_SO;
    }

    public long test(int sale, int k) {
        if (!world.has(SALES, sale) || k < NONE) {
            return NONE;
        }
        ladder.look(NONE);
        ladder.gatherTests(sale);
        if (k == NONE) {
            return ladder.testCount;
        }
        return k < ladder.testCount ? ladder.tests[k] : NOT_SO;
    }

    public int passes(int sale) {
        if (!world.has(SALES, sale)) {
            return NONE;
        }
        ladder.look(NONE);
        ladder.gatherTests(sale);
        return ladder.isNearATest(sale) ? 1 : 0;
    }

    public int prices(int sale, int what) {
        if (!world.has(SALES, sale) || what < 0 || what > 2) {
            return NOT_SO;
        }
        ladder.look(NONE);
        ladder.gatherTests(sale);
        spans.find(sale, ladder.tests, ladder.testCount);
        if (what == 0) {
            return spans.size();
        }
        return what == 1 ? spans.least() : spans.greatest();
    }

    public int needs(int sale) {
        if (!world.has(SALES, sale)) {
            return NONE;
        }
        ladder.look(NONE);
        ladder.gatherTests(sale);
        return ladder.leastNear(sale);
    }

    public int rests(int sale) {
        if (!world.has(SALES, sale)) {
            return NONE;
        }
        long withAll = worthInOrder(sale, isTurned());
        int bits = 0;
        for (int other = 0; other < world.tally[SALES]; other++) {
            if (other == sale) {
                continue;
            }
            ladder.look(other);
            ladder.climb(sale, isTurned());
            if (ladder.answer() != withAll) {
                bits |= 1 << other;
            }
        }
        return bits;
    }

    public long turned(int sale) {
        return worthInOrder(sale, !isTurned());
    }

    public long due(int sale) {
        long worth = worthInOrder(sale, isTurned());
        return worth < 0 ? worth : dutyOn(worth);
    }

    public long dues() {
        long sum = 0;
        ladder.look(NONE);
        for (int sale = 0; sale < world.tally[SALES]; sale++) {
            ladder.climb(sale, isTurned());
            if (ladder.step != 0) {
                sum += dutyOn(ladder.value);
            }
        }
        return sum;
    }

    public int all(int method) {
        if (method < 0 || method > METHODS) {
            return NONE;
        }
        int bits = 0;
        ladder.look(NONE);
        for (int sale = 0; sale < world.tally[SALES]; sale++) {
            ladder.climb(sale, isTurned());
            if (ladder.step == method) {
                bits |= 1 << sale;
            }
        }
        return bits;
    }

    public int report(int i) {
        if (i < NONE) {
            return NONE;
        }
        writeReport();
        if (i == NONE) {
            return page.size;
        }
        return i < page.size ? page.bytes[i] : NOT_SO;
    }

    public int price(int sale, int v) {
        if (!world.has(SALES, sale) || v < 1 || v > NUMBER_MOST || world.sale[sale][PRICE] == v) {
            return NONE;
        }
        int was = world.sale[sale][PRICE];
        world.sale[sale][PRICE] = v;
        acts.add(ACT_PRICE, sale, 0, was);
        return was;
    }

    public boolean bind(int sale, boolean is) {
        int now = is ? 1 : 0;
        if (!world.has(SALES, sale) || world.sale[sale][BOUND] == now) {
            return false;
        }
        world.sale[sale][BOUND] = now;
        acts.add(ACT_BIND, sale, 0, 1 - now);
        return true;
    }

    public boolean relate(int party, int other, boolean is) {
        if (!world.has(PARTIES, party) || !world.has(PARTIES, other) || party == other) {
            return false;
        }
        if (world.isTold(party, other) == is || is && world.tally[PAIRS] >= PAIRS_MOST) {
            return false;
        }
        world.tell(party, other, is);
        acts.add(ACT_RELATE, party, other, is ? 0 : 1);
        return true;
    }

    public int rule(int what, int v) {
        if (what < 0 || what >= RULE_LEAST.length || v < RULE_LEAST[what] || v > RULE_MOST[what]) {
            return NONE;
        }
        int was = world.tally[NEAR + what];
        if (was == v) {
            return NONE;
        }
        world.tally[NEAR + what] = v;
        acts.add(ACT_RULE, what, 0, was);
        return was;
    }

    public int turn() {
        int was = world.tally[TURNED];
        world.tally[TURNED] = 1 - was;
        acts.add(ACT_TURN, 0, 0, was);
        return 1 - was;
    }

    public int resell(int good, int pieces, int price, int day) {
        boolean inBounds = pieces >= 1 && pieces <= NUMBER_MOST && price >= 1 && price <= NUMBER_MOST
            && day >= 0 && day <= DAY_MOST;
        int row = world.tally[RESALES];
        if (!inBounds || !world.has(GOODS, good) || row >= RESALES_MOST) {
            return NONE;
        }
        world.resale[row][ROW_GOOD] = good;
        world.resale[row][ROW_PIECES] = pieces;
        world.resale[row][ROW_PRICE] = price;
        world.resale[row][ROW_DAY] = day;
        world.tally[RESALES] = row + 1;
        acts.add(ACT_RESELL, 0, 0, row);
        return row;
    }

    public int spread(int assist, int by) {
        if (!world.has(ASSISTS, assist) || by < 0 || by > NUMBER_MOST
            || world.assist[assist][SPREAD] == by) {
            return NONE;
        }
        int was = world.assist[assist][SPREAD];
        world.assist[assist][SPREAD] = by;
        acts.add(ACT_SPREAD, assist, 0, was);
        return was;
    }

    public int lessen(int band, int less) {
        if (!world.has(BANDS, band) || less < 0 || less > LESS_MOST
            || world.band[band][LESS] == less) {
            return NONE;
        }
        int was = world.band[band][LESS];
        world.band[band][LESS] = less;
        acts.add(ACT_LESSEN, band, 0, was);
        return was;
    }

    public int undo() {
        if (acts.size == 0) {
            return NONE;
        }
        acts.takeBack(world);
        return acts.size;
    }

    public boolean keep(int k, boolean back) {
        if (k < 0 || k >= KEEPS || back && (laidBits >> k & 1) == 0) {
            return false;
        }
        if (back) {
            world.take(kept[k]);
            acts.clear();
        } else {
            kept[k].take(world);
            laidBits |= 1 << k;
        }
        return true;
    }

    private boolean isTurned() {
        return world.tally[TURNED] == 1;
    }

    private long worthInOrder(int sale, boolean isTurned) {
        if (!world.has(SALES, sale)) {
            return NONE;
        }
        ladder.look(NONE);
        ladder.climb(sale, isTurned);
        return ladder.answer();
    }

    private long dutyOn(long worth) {
        return worth * world.tally[DUTY] / HUNDRED;
    }

    private void writeReport() {
        page.size = 0;
        ladder.look(NONE);
        for (int sale = 0; sale < world.tally[SALES]; sale++) {
            ladder.climb(sale, isTurned());
            page.addWord(world.saleName[sale]);
            if (ladder.step == 0) {
                page.addText(" fails ; ");
                continue;
            }
            page.addText(" by ");
            page.addNumber(ladder.step);
            page.addText(" worth ");
            page.addNumber(ladder.value);
            page.addText(" ; ");
        }
    }

    /** A divisor that can't divide answers 0: none such stands in a told world. */
    private static long cut(long number, long divisor) {
        return divisor > 0 ? number / divisor : 0;
    }

    /** The bytes that were fed and not yet read. */
    private static final class Tape {
        final byte[] bytes = new byte[TAPE_MOST];
        int size;

        void add(int number) {
            for (int shift = 24; shift >= 0 && size < TAPE_MOST; shift -= 8) {
                bytes[size] = (byte) (number >> shift);
                size++;
            }
        }
    }

    /** All that a TEXT tells and ACTS change: one is in force, one is a draft, two are kept. */
    private static final class World {
        final int[] tally = new int[TALLIES];
        final int[] toldKin = new int[PARTIES_MOST];
        final int[][] good = new int[GOODS_MOST][GOOD_COLUMNS];
        final int[][] assist = new int[ASSISTS_MOST][PAIR_COLUMNS];
        final int[][] sale = new int[SALES_MOST][SALE_COLUMNS];
        final long[] saleName = new long[SALES_MOST];
        final int[][] resale = new int[RESALES_MOST][ROW_COLUMNS];
        final int[][] band = new int[BANDS_MOST][PAIR_COLUMNS];

        World() {
            clear();
        }

        void clear() {
            Arrays.fill(tally, 0);
            Arrays.fill(toldKin, 0);
            for (int i = 0; i < RULE_WITHOUT.length; i++) {
                tally[NEAR + i] = RULE_WITHOUT[i];
            }
        }

        void take(World from) {
            System.arraycopy(from.tally, 0, tally, 0, TALLIES);
            System.arraycopy(from.toldKin, 0, toldKin, 0, PARTIES_MOST);
            System.arraycopy(from.saleName, 0, saleName, 0, SALES_MOST);
            takeRows(from.good, good);
            takeRows(from.assist, assist);
            takeRows(from.sale, sale);
            takeRows(from.resale, resale);
            takeRows(from.band, band);
        }

        private static void takeRows(int[][] from, int[][] to) {
            for (int i = 0; i < from.length && i < to.length; i++) {
                System.arraycopy(from[i], 0, to[i], 0, Math.min(from[i].length, to[i].length));
            }
        }

        /** Whether there is a thing of this number among those that a tally counts. */
        boolean has(int sort, int number) {
            return number >= 0 && number < tally[sort];
        }

        boolean isTold(int party, int other) {
            return (toldKin[party] >> other & 1) != 0;
        }

        void tell(int party, int other, boolean is) {
            if (party == other || isTold(party, other) == is) {
                return;
            }
            toldKin[party] ^= 1 << other;
            toldKin[other] ^= 1 << party;
            tally[PAIRS] += is ? 1 : -1;
        }

        boolean areSimilar(int one, int other) {
            return one != other && good[one][GROUP] == good[other][GROUP]
                && good[one][LAND] == good[other][LAND];
        }

        int levelOf(int number) {
            int level = 0;
            for (int i = 0; i < tally[BANDS]; i++) {
                if (sale[number][PIECES] >= band[i][FROM]) {
                    level = i + 1;
                }
            }
            return level;
        }
    }

    /** The TOKENS on the tape, one after the other. */
    private static final class Tokens {
        static final int END = 0;
        static final int WORD = 1;
        static final int NUMBER = 2;
        static final int SEMICOLON = 3;
        static final int BROKEN = 4;

        private final byte[] bytes;
        private final long[] grammar = new long[WORD_COUNT];
        private int end;
        private int at;

        int place;
        int sort;
        /** Which word of the grammar it is; NONE for all else. */
        int word;
        long value;

        Tokens(Tape tape) {
            bytes = tape.bytes;
            learn(LINE_WORDS, 0);
            learn(INNER_WORDS, W_GROUP);
            learn(EXTRA_WORDS, W_BOUND);
        }

        private void learn(String words, int first) {
            int number = first;
            for (int i = 0; i < words.length() && number < WORD_COUNT; i++) {
                char sign = words.charAt(i);
                if (sign == ' ') {
                    number++;
                } else {
                    grammar[number] = grammar[number] * LETTER_BASE + (sign - 'a' + 1);
                }
            }
        }

        void start(int size) {
            end = Math.min(size, bytes.length);
            at = 0;
        }

        void next() {
            while (at < end && (bytes[at] == ' ' || bytes[at] == '\n')) {
                at++;
            }
            place = at;
            word = NONE;
            value = 0;
            if (at >= end) {
                sort = END;
            } else if (bytes[at] == ';') {
                sort = SEMICOLON;
                at++;
            } else if (isLetter(bytes[at])) {
                takeWord();
            } else if (isDigit(bytes[at])) {
                takeNumber();
            } else {
                sort = BROKEN;
            }
        }

        boolean isName() {
            return sort == WORD && word == NONE;
        }

        private void takeWord() {
            while (at < end && isLetter(bytes[at])) {
                value = value * LETTER_BASE + (bytes[at] - 'a' + 1);
                at++;
            }
            sort = at - place > WORD_LONGEST ? BROKEN : WORD;
            for (int i = 0; i < WORD_COUNT && sort == WORD; i++) {
                if (grammar[i] == value) {
                    word = i;
                }
            }
        }

        private void takeNumber() {
            while (at < end && isDigit(bytes[at])) {
                value = value * 10 + (bytes[at] - '0');
                at++;
            }
            sort = at - place > NUMBER_LONGEST ? BROKEN : NUMBER;
        }

        private static boolean isLetter(int sign) {
            return sign >= 'a' && sign <= 'z';
        }

        private static boolean isDigit(int sign) {
            return sign >= '0' && sign <= '9';
        }
    }

    /**
     * Reads a TEXT into a draft. FAULTS are met from left to right and only the first is kept; what
     * is read behind one is thrown away, so it need only be safe as an index.
     */
    private static final class Reader {
        private final Tokens tokens;
        private final World draft;
        private final long[] names = new long[NAMES_MOST];
        private final int[] nameSorts = new int[NAMES_MOST];
        private final int[] nameNumbers = new int[NAMES_MOST];
        private int named;
        private int rulesTold;
        private int fault;

        Reader(Tape tape, World draft) {
            this.tokens = new Tokens(tape);
            this.draft = draft;
        }

        /** How many LINES; below 0 a FAULT, as text() answers it. */
        int read(int size) {
            draft.clear();
            named = 0;
            rulesTold = 0;
            fault = 0;
            int lines = 0;
            tokens.start(size);
            tokens.next();
            while (fault == 0 && tokens.sort != Tokens.END && lines < TAPE_MOST) {
                int word = tokens.word;
                checkStart(word);
                if (fault == 0) {
                    readLine(word);
                }
                lines++;
                tokens.next();
            }
            return fault == 0 ? lines : NOT_SO - fault;
        }

        private void checkStart(int word) {
            if (word < W_PARTY || word > W_DUTY) {
                fail(FAULT_FORM);
            } else if (word >= W_NEAR && (rulesTold >> word & 1) != 0) {
                fail(FAULT_AGAIN);
            } else if (isFull(word)) {
                fail(FAULT_MANY);
            }
        }

        private boolean isFull(int word) {
            switch (word) {
                case W_PARTY:
                    return draft.tally[PARTIES] >= PARTIES_MOST;
                case W_KIN:
                    return draft.tally[PAIRS] >= PAIRS_MOST;
                case W_GOOD:
                    return draft.tally[GOODS] >= GOODS_MOST;
                case W_ASSIST:
                    return draft.tally[ASSISTS] >= ASSISTS_MOST;
                case W_SALE:
                    return draft.tally[SALES] >= SALES_MOST;
                case W_RESOLD:
                    return draft.tally[RESALES] >= RESALES_MOST;
                case W_BAND:
                    return draft.tally[BANDS] >= BANDS_MOST;
                default:
                    return false;
            }
        }

        private void readLine(int word) {
            switch (word) {
                case W_PARTY:
                    readParty();
                    break;
                case W_KIN:
                    readKin();
                    break;
                case W_GOOD:
                    readGood();
                    break;
                case W_ASSIST:
                    readAssist();
                    break;
                case W_SALE:
                    readSale(draft.sale[draft.tally[SALES]]);
                    readExtras(draft.sale[draft.tally[SALES]]);
                    draft.tally[SALES]++;
                    // That no more EXTRAS come shows at the semicolon: it is taken already.
                    return;
                case W_RESOLD:
                    readResold();
                    break;
                case W_MADE:
                    readMade();
                    break;
                case W_BAND:
                    readBand();
                    break;
                default:
                    readRule(word);
                    break;
            }
            tokens.next();
            if (tokens.sort != Tokens.SEMICOLON) {
                fail(FAULT_FORM);
            }
        }

        private void readParty() {
            giveName(PARTIES);
            draft.tally[PARTIES]++;
        }

        private void readKin() {
            int one = toldOf(PARTIES);
            int other = toldOf(PARTIES);
            if (one == other) {
                fail(FAULT_BOUNDS);
            } else if (draft.isTold(one, other)) {
                fail(FAULT_AGAIN);
            } else {
                draft.tell(one, other, true);
            }
        }

        private void readGood() {
            int[] row = draft.good[draft.tally[GOODS]];
            giveName(GOODS);
            expect(W_GROUP);
            row[GROUP] = number(0, DIGIT_MOST);
            expect(W_LAND);
            row[LAND] = number(0, DIGIT_MOST);
            row[COST] = 0;
            row[PROFIT] = 0;
            draft.tally[GOODS]++;
        }

        private void readAssist() {
            int[] row = draft.assist[draft.tally[ASSISTS]];
            giveName(ASSISTS);
            expect(W_WORTH);
            row[AMOUNT] = number(1, NUMBER_MOST);
            row[SPREAD] = 0;
            tokens.next();
            if (tokens.word == W_BY) {
                row[SPREAD] = number(1, NUMBER_MOST);
            } else if (tokens.word != W_FIRST) {
                fail(FAULT_FORM);
            }
            draft.tally[ASSISTS]++;
        }

        private void readSale(int[] row) {
            Arrays.fill(row, 0);
            giveName(SALES);
            draft.saleName[draft.tally[SALES]] = tokens.value;
            row[GOOD] = toldOf(GOODS);
            row[SELLER] = toldOf(PARTIES);
            row[BUYER] = toldOf(PARTIES);
            if (row[SELLER] == row[BUYER]) {
                fail(FAULT_BOUNDS);
            }
            expect(W_PIECES);
            row[PIECES] = number(1, NUMBER_MOST);
            expect(W_PRICE);
            row[PRICE] = number(1, NUMBER_MOST);
            expect(W_DAY);
            row[DAY] = number(0, DAY_MOST);
        }

        private void readExtras(int[] row) {
            int seen = 0;
            for (int i = 0; i < TAPE_MOST && fault == 0; i++) {
                tokens.next();
                int word = tokens.word;
                if (tokens.sort == Tokens.SEMICOLON) {
                    return;
                }
                if (word < W_BOUND || word > W_USES) {
                    fail(FAULT_FORM);
                } else if (word == W_USES) {
                    int bit = 1 << toldOf(ASSISTS);
                    if ((row[USES] & bit) != 0) {
                        fail(FAULT_AGAIN);
                    }
                    row[USES] |= bit;
                } else if ((seen >> word & 1) != 0) {
                    fail(FAULT_AGAIN);
                } else {
                    seen |= 1 << word;
                    row[BOUND + word - W_BOUND] = word == W_BOUND ? 1
                        : number(0, word == W_ROYALTY ? PERCENT_MOST : NUMBER_MOST);
                }
            }
        }

        private void readResold() {
            int[] row = draft.resale[draft.tally[RESALES]];
            row[ROW_GOOD] = toldOf(GOODS);
            expect(W_PIECES);
            row[ROW_PIECES] = number(1, NUMBER_MOST);
            expect(W_PRICE);
            row[ROW_PRICE] = number(1, NUMBER_MOST);
            expect(W_DAY);
            row[ROW_DAY] = number(0, DAY_MOST);
            draft.tally[RESALES]++;
        }

        private void readMade() {
            int[] row = draft.good[toldOf(GOODS)];
            if (row[COST] != 0) {
                fail(FAULT_AGAIN);
            }
            expect(W_COST);
            row[COST] = number(1, NUMBER_MOST);
            expect(W_PROFIT);
            row[PROFIT] = number(0, PERCENT_MOST);
        }

        private void readBand() {
            int band = draft.tally[BANDS];
            int least = band == 0 ? BAND_LEAST : draft.band[band - 1][FROM] + 1;
            expect(W_FROM);
            draft.band[band][FROM] = number(least, NUMBER_MOST);
            expect(W_LESS);
            draft.band[band][LESS] = number(0, LESS_MOST);
            draft.tally[BANDS]++;
        }

        private void readRule(int word) {
            int rule = word - W_NEAR;
            rulesTold |= 1 << word;
            draft.tally[NEAR + rule] = number(RULE_LEAST[rule], RULE_MOST[rule]);
        }

        private void fail(int kind) {
            if (fault == 0) {
                fault = 8 * tokens.place + kind;
            }
        }

        private void expect(int word) {
            tokens.next();
            if (tokens.word != word) {
                fail(FAULT_FORM);
            }
        }

        private int number(int least, int most) {
            tokens.next();
            if (tokens.sort != Tokens.NUMBER) {
                fail(FAULT_FORM);
            } else if (tokens.value < least || tokens.value > most) {
                fail(FAULT_BOUNDS);
            }
            return fault == 0 ? (int) tokens.value : least;
        }

        /** A new NAME, for the next one of its sort. */
        private void giveName(int sort) {
            tokens.next();
            if (!tokens.isName()) {
                fail(FAULT_FORM);
            } else if (find(tokens.value) != NONE) {
                fail(FAULT_AGAIN);
            } else if (named < NAMES_MOST) {
                names[named] = tokens.value;
                nameSorts[named] = sort;
                nameNumbers[named] = draft.tally[sort];
                named++;
            }
        }

        /** The number of the one of this sort whose NAME comes next; 0 behind a FAULT. */
        private int toldOf(int sort) {
            tokens.next();
            int at = find(tokens.value);
            if (!tokens.isName()) {
                fail(FAULT_FORM);
            } else if (at == NONE || nameSorts[at] != sort) {
                fail(FAULT_UNTOLD);
            }
            return fault == 0 && at != NONE ? nameNumbers[at] : 0;
        }

        private int find(long name) {
            for (int i = 0; i < named; i++) {
                if (names[i] == name) {
                    return i;
                }
            }
            return NONE;
        }
    }

    /** What holds of each SALE ahead of all METHODS; a SALE may be left out, as if it were not told. */
    private static final class Ledger {
        private final World world;
        private final int[] kinBits = new int[PARTIES_MOST];
        private final boolean[] amongKin = new boolean[SALES_MOST];
        private int gone = NONE;

        final int[] levels = new int[SALES_MOST];
        final int[][] shares = new int[ASSISTS_MOST][SALES_MOST];
        final long[] owns = new long[SALES_MOST];
        /** The PRICE that METHOD 4 takes; NONE: it fails. */
        final int[] resoldPrices = new int[SALES_MOST];

        Ledger(World world) {
            this.world = world;
        }

        void look(int without) {
            gone = without;
            closeKin();
            for (int assist = 0; assist < world.tally[ASSISTS]; assist++) {
                shareOut(assist);
            }
            for (int sale = 0; sale < world.tally[SALES]; sale++) {
                int[] row = world.sale[sale];
                amongKin[sale] = areKin(row[SELLER], row[BUYER]);
                levels[sale] = world.levelOf(sale);
                owns[sale] = priced(sale, row[PRICE]) + row[FEE] + broughtAlong(sale);
                resoldPrices[sale] = priceResold(sale);
            }
        }

        boolean areKin(int party, int other) {
            return (kinBits[party] >> other & 1) != 0;
        }

        private void closeKin() {
            int parties = world.tally[PARTIES];
            for (int party = 0; party < parties; party++) {
                kinBits[party] = world.toldKin[party] | 1 << party;
            }
            for (int between = 0; between < parties; between++) {
                for (int party = 0; party < parties; party++) {
                    if (areKin(party, between)) {
                        kinBits[party] |= kinBits[between];
                    }
                }
            }
        }

        private void shareOut(int assist) {
            int amount = world.assist[assist][AMOUNT];
            int pieces = world.assist[assist][SPREAD];
            int left = pieces;
            int served = 0;
            Arrays.fill(shares[assist], 0);
            for (int i = 0; i < world.tally[SALES]; i++) {
                int sale = firstUser(assist, served);
                if (sale == NONE) {
                    return;
                }
                if (pieces == 0) {
                    shares[assist][sale] = amount;
                    return;
                }
                int part = Math.min(left, world.sale[sale][PIECES]);
                shares[assist][sale] = (int) cut((long) amount * part, pieces);
                left -= part;
                served |= 1 << sale;
            }
        }

        private int firstUser(int assist, int served) {
            int first = NONE;
            for (int sale = 0; sale < world.tally[SALES]; sale++) {
                boolean uses = (world.sale[sale][USES] >> assist & 1) != 0;
                if (!uses || sale == gone || (served >> sale & 1) != 0) {
                    continue;
                }
                if (first == NONE || world.sale[sale][DAY] < world.sale[first][DAY]) {
                    first = sale;
                }
            }
            return first;
        }

        /** The part of OWN that a PRICE makes. */
        long priced(int sale, int price) {
            long amount = (long) price * world.sale[sale][PIECES];
            return amount + amount * world.sale[sale][ROYALTY] / HUNDRED;
        }

        /** What OWN and METHOD 5 alike put on top. */
        private long broughtAlong(int sale) {
            long sum = world.sale[sale][PACKING] + world.sale[sale][FREIGHT];
            for (int assist = 0; assist < world.tally[ASSISTS]; assist++) {
                sum += shares[assist][sale];
            }
            return sum;
        }

        private int priceResold(int sale) {
            int rows = rowsFor(sale, false);
            return priceOfMost(rows != 0 ? rows : rowsFor(sale, true));
        }

        /** Resold rows that METHOD 4 may look at, as bits. */
        private int rowsFor(int sale, boolean ofSimilar) {
            int good = world.sale[sale][GOOD];
            int rows = 0;
            for (int row = 0; row < world.tally[RESALES]; row++) {
                int rowGood = world.resale[row][ROW_GOOD];
                int later = world.resale[row][ROW_DAY] - world.sale[sale][DAY];
                boolean fits = ofSimilar ? world.areSimilar(good, rowGood) : good == rowGood;
                if (fits && later >= 0 && later <= 3 * world.tally[WINDOW]) {
                    rows |= 1 << row;
                }
            }
            return rows;
        }

        private int priceOfMost(int rows) {
            int best = NONE;
            int most = 0;
            for (int row = 0; row < world.tally[RESALES]; row++) {
                if ((rows >> row & 1) == 0) {
                    continue;
                }
                int price = world.resale[row][ROW_PRICE];
                int pieces = piecesAt(rows, price);
                if (pieces > most || pieces == most && price < best) {
                    most = pieces;
                    best = price;
                }
            }
            return best;
        }

        private int piecesAt(int rows, int price) {
            int pieces = 0;
            for (int row = 0; row < world.tally[RESALES]; row++) {
                if ((rows >> row & 1) != 0 && world.resale[row][ROW_PRICE] == price) {
                    pieces += world.resale[row][ROW_PIECES];
                }
            }
            return pieces;
        }

        /** What METHOD 4 tells; NONE: it fails. */
        long resoldWorth(int sale) {
            if (resoldPrices[sale] == NONE) {
                return NONE;
            }
            long amount = (long) world.sale[sale][PIECES] * resoldPrices[sale];
            return cut(amount * (HUNDRED - world.tally[MARGIN]), HUNDRED + world.tally[DUTY]);
        }

        /** What METHOD 5 tells; NONE: it fails. */
        long madeWorth(int sale) {
            int[] good = world.good[world.sale[sale][GOOD]];
            if (good[COST] == 0) {
                return NONE;
            }
            long cost = (long) world.sale[sale][PIECES] * good[COST];
            return cost * (HUNDRED + good[PROFIT]) / HUNDRED + broughtAlong(sale);
        }

        boolean isAmongKin(int sale) {
            return amongKin[sale];
        }

        boolean isAnother(int sale, int other) {
            return other != sale && other != gone;
        }

        boolean isInWindow(int sale, int other) {
            int days = Math.abs(world.sale[sale][DAY] - world.sale[other][DAY]);
            return days <= world.tally[WINDOW];
        }

        /** What is BROUGHT to a SALE from another one. */
        long brought(int sale, int other) {
            return cut(owns[other] * measure(sale), measure(other));
        }

        /** By what worths of the same goods in other amounts are compared. */
        private long measure(int sale) {
            int level = levels[sale];
            int less = level == 0 ? 0 : world.band[level - 1][LESS];
            return (long) world.sale[sale][PIECES] * (HUNDRED - less);
        }

        /** By how much OWN may differ from a TEST. */
        long slack(long test) {
            return test * world.tally[NEAR] / HUNDRED;
        }
    }

    /** The six METHODS, TESTS and the climb; look() comes ahead of all else. */
    private static final class Ladder {
        private final World world;
        private final Ledger ledger;
        private final int[] ownFailures = new int[SALES_MOST];

        final long[] tests = new long[TESTS_MOST];
        int testCount;

        // What the METHOD that was asked last tells: why it failed (0: it did not), else its
        // worth, and the SALE or PRICE that this comes from.
        int failure;
        long value;
        int source;

        // Where the climb ended (0: all failed), and why the METHODS ahead of that failed.
        final int[] reasons = new int[METHODS];
        int failures;
        int step;

        Ladder(World world, Ledger ledger) {
            this.world = world;
            this.ledger = ledger;
        }

        void look(int without) {
            ledger.look(without);
            for (int sale = 0; sale < world.tally[SALES]; sale++) {
                ownFailures[sale] = judge(sale);
            }
        }

        private int judge(int sale) {
            if (world.sale[sale][BOUND] != 0) {
                return WHY_BOUND;
            }
            if (!ledger.isAmongKin(sale)) {
                return 0;
            }
            gatherTests(sale);
            if (testCount == 0) {
                return WHY_NO_TEST;
            }
            return isNearATest(sale) ? 0 : WHY_NONE_NEAR;
        }

        void gatherTests(int sale) {
            testCount = 0;
            for (int other = 0; other < world.tally[SALES]; other++) {
                if (isTestFor(sale, other)) {
                    addTest(ledger.brought(sale, other));
                }
            }
            addTest(ledger.resoldWorth(sale));
            addTest(ledger.madeWorth(sale));
        }

        private boolean isTestFor(int sale, int other) {
            int good = world.sale[sale][GOOD];
            int otherGood = world.sale[other][GOOD];
            return ledger.isAnother(sale, other)
                && world.sale[other][BOUND] == 0 && !ledger.isAmongKin(other)
                && (good == otherGood || world.areSimilar(good, otherGood))
                && ledger.isInWindow(sale, other);
        }

        private void addTest(long worth) {
            if (worth != NONE && testCount < TESTS_MOST) {
                tests[testCount] = worth;
                testCount++;
            }
        }

        boolean isNearATest(int sale) {
            for (int i = 0; i < testCount; i++) {
                if (Math.abs(ledger.owns[sale] - tests[i]) <= ledger.slack(tests[i])) {
                    return true;
                }
            }
            return false;
        }

        /** The least near by which a SALE passes the TESTS gathered; NOT_SO: none that may be told. */
        int leastNear(int sale) {
            long least = NEAR_MOST + 1;
            for (int i = 0; i < testCount; i++) {
                // OWN is never 0, so a TEST of 0 is near to no SALE.
                if (tests[i] > 0) {
                    long apart = Math.abs(ledger.owns[sale] - tests[i]);
                    least = Math.min(least, cut(apart * HUNDRED + tests[i] - 1, tests[i]));
                }
            }
            return least > NEAR_MOST ? NOT_SO : (int) least;
        }

        void ask(int sale, int method) {
            source = NONE;
            if (method == 1) {
                value = ledger.owns[sale];
                failure = ownFailures[sale];
                return;
            }
            if (method == 4) {
                source = ledger.resoldPrices[sale];
                value = ledger.resoldWorth(sale);
            } else if (method == 5) {
                value = ledger.madeWorth(sale);
            } else {
                bringLeast(sale, sourcesFor(sale, method));
            }
            // METHODS 2 to 6 have one reason each.
            failure = value == NONE ? method * 10 + 1 : 0;
        }

        /** SALES from which METHOD 2, 3 or 6 may bring, as bits. */
        private int sourcesFor(int sale, int method) {
            int sources = 0;
            int level = 0;
            for (int other = 0; other < world.tally[SALES]; other++) {
                if (!ledger.isAnother(sale, other) || ownFailures[other] != 0
                    || !fits(sale, other, method)) {
                    continue;
                }
                sources |= 1 << other;
                if (ledger.levels[sale] == ledger.levels[other]) {
                    level |= 1 << other;
                }
            }
            return method == 6 || level == 0 ? sources : level;
        }

        private boolean fits(int sale, int other, int method) {
            int good = world.sale[sale][GOOD];
            int otherGood = world.sale[other][GOOD];
            if (method == 6) {
                return world.good[good][GROUP] == world.good[otherGood][GROUP];
            }
            boolean isRightGood = method == 2 ? good == otherGood : world.areSimilar(good, otherGood);
            return isRightGood && ledger.isInWindow(sale, other);
        }

        private void bringLeast(int sale, int sources) {
            value = NONE;
            for (int other = 0; other < world.tally[SALES]; other++) {
                if ((sources >> other & 1) == 0) {
                    continue;
                }
                long worth = ledger.brought(sale, other);
                if (source == NONE || worth < value) {
                    source = other;
                    value = worth;
                }
            }
        }

        void climb(int sale, boolean isTurned) {
            failures = 0;
            step = 0;
            for (int i = 0; i < METHODS; i++) {
                int method = isTurned ? ORDER_TURNED[i] : ORDER[i];
                ask(sale, method);
                if (failure == 0) {
                    step = method;
                    return;
                }
                reasons[failures] = failure;
                failures++;
            }
        }

        /** WORTH as worth() answers it, behind a climb. */
        long answer() {
            return step == 0 ? NOT_SO : value;
        }
    }

    /** The PRICES by which a SALE would pass: OWN grows with each, so each TEST is near to one span. */
    private static final class Spans {
        private final World world;
        private final Ledger ledger;
        private final int[] lows = new int[TESTS_MOST];
        private final int[] highs = new int[TESTS_MOST];
        private int count;

        Spans(World world, Ledger ledger) {
            this.world = world;
            this.ledger = ledger;
        }

        /** Spans in which there is no PRICE are left out. */
        void find(int sale, long[] tests, int testCount) {
            count = 0;
            for (int i = 0; i < testCount && i < tests.length && count < TESTS_MOST; i++) {
                long slack = ledger.slack(tests[i]);
                lows[count] = pricesBelow(sale, tests[i] - slack) + 1;
                highs[count] = pricesBelow(sale, tests[i] + slack + 1);
                if (lows[count] <= highs[count]) {
                    count++;
                }
            }
        }

        private int pricesBelow(int sale, long own) {
            long fixed = ledger.owns[sale] - ledger.priced(sale, world.sale[sale][PRICE]);
            int below = 0;
            int above = NUMBER_MOST + 1;
            for (int round = 0; round < NUMBER_MOST && above - below > 1; round++) {
                int price = (below + above) / 2;
                if (ledger.priced(sale, price) + fixed < own) {
                    below = price;
                } else {
                    above = price;
                }
            }
            return below;
        }

        /** Spans may overlap: from the lowest on, each counts only beyond those ahead of it. */
        int size() {
            int counted = 0;
            int reached = 0;
            for (int round = 0; round < count; round++) {
                int next = lowestBeyond(reached);
                if (next == NONE) {
                    break;
                }
                counted += highs[next] - Math.max(lows[next] - 1, reached);
                reached = highs[next];
            }
            return counted;
        }

        private int lowestBeyond(int price) {
            int lowest = NONE;
            for (int i = 0; i < count; i++) {
                if (highs[i] > price && (lowest == NONE || lows[i] < lows[lowest])) {
                    lowest = i;
                }
            }
            return lowest;
        }

        int least() {
            int first = lowestBeyond(0);
            return first == NONE ? NONE : lows[first];
        }

        int greatest() {
            int greatest = NONE;
            for (int i = 0; i < count; i++) {
                greatest = Math.max(greatest, highs[i]);
            }
            return greatest;
        }
    }

    /** The latest ACTS, each with what was so ahead of it; the oldest goes when there are too many. */
    private static final class Acts {
        private static final int KIND = 0;
        private static final int ONE = 1;
        private static final int OTHER = 2;
        private static final int WAS = 3;
        private static final int COLUMNS = 4;

        private final int[][] rows = new int[ACTS_MOST][COLUMNS];
        private int next;
        int size;

        void clear() {
            size = 0;
        }

        void add(int kind, int one, int other, int was) {
            int[] row = rows[next];
            row[KIND] = kind;
            row[ONE] = one;
            row[OTHER] = other;
            row[WAS] = was;
            next = (next + 1) % ACTS_MOST;
            size = Math.min(size + 1, ACTS_MOST);
        }

        void takeBack(World world) {
            next = (next + ACTS_MOST - 1) % ACTS_MOST;
            size--;
            int[] row = rows[next];
            switch (row[KIND]) {
                case ACT_PRICE:
                    world.sale[row[ONE]][PRICE] = row[WAS];
                    break;
                case ACT_BIND:
                    world.sale[row[ONE]][BOUND] = row[WAS];
                    break;
                case ACT_RELATE:
                    world.tell(row[ONE], row[OTHER], row[WAS] == 1);
                    break;
                case ACT_RULE:
                    world.tally[NEAR + row[ONE]] = row[WAS];
                    break;
                case ACT_TURN:
                    world.tally[TURNED] = row[WAS];
                    break;
                case ACT_RESELL:
                    world.tally[RESALES] = row[WAS];
                    break;
                case ACT_SPREAD:
                    world.assist[row[ONE]][SPREAD] = row[WAS];
                    break;
                default:
                    world.band[row[ONE]][LESS] = row[WAS];
                    break;
            }
        }
    }

    /** The bytes of a report, in one row that is used again. */
    private static final class Page {
        // A name of 7, 15 bytes of the form and a worth of at most 19 digits.
        private static final int SALE_BYTES = 48;
        private static final long HIGHEST_LETTER = 387420489L;
        private static final long HIGHEST_DIGIT = 1000000000000000000L;

        final byte[] bytes = new byte[SALES_MOST * SALE_BYTES];
        int size;

        private void add(int sign) {
            if (size < bytes.length) {
                bytes[size] = (byte) sign;
                size++;
            }
        }

        void addText(String text) {
            for (int i = 0; i < text.length(); i++) {
                add(text.charAt(i));
            }
        }

        void addWord(long word) {
            for (long unit = HIGHEST_LETTER; unit > 0; unit /= LETTER_BASE) {
                long letter = word / unit % LETTER_BASE;
                if (letter > 0) {
                    add((int) letter - 1 + 'a');
                }
            }
        }

        void addNumber(long number) {
            for (long unit = HIGHEST_DIGIT; unit > 0; unit /= 10) {
                if (number >= unit || unit == 1) {
                    add((int) (number / unit % 10) + '0');
                }
            }
        }
    }
}
