import java.util.Arrays;

/** Mud on a million books: what is wet, what is lost, and what to do first. See README.md. */
public final class MudLibrary {
    public static final int NONE = -1, BAD = -2, STATE = -3, FULL = -4;
    public static final long NO = -4611686018427387904L;

    private static final int NOTHING = -11, OUTSIDE = -12, OTHER_SORT = -13, BELOW_ZERO = -14;
    private static final int LAST_HOUR = 999;
    private static final int MOST_COUNTED = 9999;

    private final Stock stock = new Stock();
    private final Rules rules = new Rules();
    private final Rows trials = new Rows(30, 4);
    private final Lots plans = new Lots();
    private final Rows hands = new Rows(6, 4);
    private final Rows leaves = new Rows(6, 4);
    private final Rows gaps = new Rows(6, 4);
    private final Joins joins = new Joins();
    private final Rows lists = new Rows(20, 4);
    private final Rows crates = new Rows(20, 4);
    private final Rows chains = new Rows(40, 4);
    private final Rows kinds = new Rows(6, 4);
    private final YearPlan yearPlan = new YearPlan();
    private final Sheets sheets = new Sheets();

    public MudLibrary() {
        rules.takeTextZero();
        rules.readText();
    }

    // ---- hours

    public long set(int what, int v) {
        int most = what == 0 ? 40 : what == 3 ? 999999 : 9999;
        if (!within(what, 0, 3) || !within(v, 0, most)) {
            return NO;
        }
        return stock.setting(what, v);
    }

    public int pass(int n) {
        if (!within(n, 1, 100)) {
            return BAD;
        }
        if (stock.hour + n > LAST_HOUR) {
            return FULL;
        }
        stock.goBy(n);
        return stock.hour;
    }

    // ---- books

    public int book(int look, int worth) {
        if (!Stock.isLook(look) || !within(worth, 0, 999)) {
            return BAD;
        }
        return stock.rows.isFull() ? FULL : stock.come(look, worth);
    }

    public int bookTold(int book, int what) {
        if (!stock.rows.has(book) || !within(what, 0, 11)) {
            return BAD;
        }
        switch (what) {
            case 8: return stock.costOf(book);
            case 9: return stock.roomOf(book);
            case 10: return stock.mouldGrowthOf(book);
            case 11: return Stock.harmGrowth(stock.stateOf(book));
            default: return stock.rows.at(book, what);
        }
    }

    public int move(int book, int state) {
        if (!stock.rows.has(book) || !Stock.isState(state)) {
            return BAD;
        }
        int before = stock.stateOf(book);
        if (!Stock.leads(before, state) || state == Stock.WASHED && !mayBeWashed(book)) {
            return STATE;
        }
        if (!stock.hasRoomFor(book, state)) {
            return FULL;
        }
        stock.become(book, state, stock.hour);
        return before;
    }

    public int left(int book) {
        if (!stock.rows.has(book)) {
            return BAD;
        }
        return Stock.hoursTillHarm(stock.rows.at(book, Stock.MOULD), stock.mouldGrowthOf(book));
    }

    public int next(int i) {
        return rules.nextOf(stock, i);
    }

    public long lost(int book) {
        if (book == -1) {
            return rules.lostOfAll(stock);
        }
        return stock.rows.has(book) ? rules.lostOfBook(stock, book) : NO;
    }

    // ---- texts, trials

    public int feed(int n, long bytes) {
        if (!within(n, 1, 8)) {
            return BAD;
        }
        return rules.reader.take(n, bytes);
    }

    public int text() {
        return rules.readText();
    }

    public int force(int text) {
        return rules.hasText(text) ? rules.becomeRule(text) : BAD;
    }

    public long says(int book, int part) {
        if (!stock.rows.has(book) || !within(part, 0, 2)) {
            return NO;
        }
        return rules.comesTo(stock, book, part);
    }

    public int trial(int ink, int paper, int ran) {
        if (!within(ink, 0, 3) || !within(paper, 0, 3) || !within(ran, 0, 1)) {
            return BAD;
        }
        return trials.isFull() ? FULL : trials.add(ink, paper, ran, stock.hour) + 1;
    }

    public int barred(int ink, int paper, int known) {
        if (!within(ink, 0, 3) || !within(paper, 0, 3) || !within(known, 0, stock.hour)) {
            return BAD;
        }
        return isBarred(ink, paper, known) ? 1 : 0;
    }

    private boolean isBarred(int ink, int paper, int known) {
        for (int k = trials.size() - 1; k >= 0; k--) {
            if (trials.at(k, 0) == ink && trials.at(k, 1) == paper && trials.at(k, 3) <= known) {
                return trials.at(k, 2) == 1;
            }
        }
        return false;
    }

    private boolean mayBeWashed(int book) {
        return rules.comesTo(stock, book, Rules.MAY) != 0
            && !isBarred(stock.rows.at(book, Stock.INK), stock.rows.at(book, Stock.PAPER), stock.hour);
    }

    // ---- lots, hands

    public int lots(int books, int n, int i) {
        int turns = Integer.bitCount(books);
        if (!areOf(books, stock.rows.size()) || turns > Lots.MOST || !within(n, 1, 24)) {
            return BAD;
        }
        if (stock.hour + turns * n > LAST_HOUR) {
            return FULL;
        }
        if (!within(i, -1, turns - 1)) {
            return NONE;
        }
        plans.plan(stock, rules, books, n);
        return i == -1 ? plans.lostInThousands() : plans.bookAt(i);
    }

    public int hand(int skill, int learns) {
        if (!within(skill, 0, 99) || !within(learns, 0, 9)) {
            return BAD;
        }
        return hands.isFull() ? FULL : hands.add(skill, learns, stock.hour, 0);
    }

    public int pace(int hands) {
        if (!areOf(hands, this.hands.size())) {
            return BAD;
        }
        int pace = 0;
        for (int k = 0; k < this.hands.size(); k++) {
            if ((hands >> k & 1) == 1) {
                pace += skillNow(k);
            }
        }
        return pace;
    }

    private int skillNow(int hand) {
        int weeks = (stock.hour - hands.at(hand, 2)) / 168;
        return Math.min(99, hands.at(hand, 0) + hands.at(hand, 1) * weeks);
    }

    // ---- leaves

    public int leaf(int marks) {
        if (!within(marks, 0, 9999)) {
            return BAD;
        }
        return leaves.isFull() ? FULL : leaves.add(marks, 0, 0, 0);
    }

    public int gap(int book, int marks) {
        if (!stock.rows.has(book) || !within(marks, 0, 14640)) {
            return BAD;
        }
        return gaps.isFull() ? FULL : gaps.add(marks, book, 0, 0);
    }

    public int agrees(int leaf, int gap) {
        if (!leaves.has(leaf) || !gaps.has(gap)) {
            return BAD;
        }
        return Joins.agreement(leaves.at(leaf, 0), gaps.at(gap, 0));
    }

    public int joined(int leaf) {
        if (leaf != -1 && !leaves.has(leaf)) {
            return BAD;
        }
        joins.join(leaves, gaps);
        return leaf == -1 ? joins.mostMarks() : joins.gapOf(leaf);
    }

    // ---- lists, crates, years

    public int list(int paper, int least, int most) {
        if (!within(paper, 0, 3) || !within(least, 0, MOST_COUNTED) || !within(most, 0, MOST_COUNTED)) {
            return BAD;
        }
        return lists.isFull() ? FULL : lists.add(paper, least, most, stock.hour) + 1;
    }

    public int were(int paper, int known, int what) {
        if (!within(paper, 0, 3) || !within(known, 0, stock.hour) || !within(what, 0, 3)) {
            return BAD;
        }
        int least = 0;
        int most = MOST_COUNTED;
        for (int k = 0; k < lists.size(); k++) {
            if (lists.at(k, 0) == paper && lists.at(k, 3) <= known) {
                least = Math.max(least, lists.at(k, 1));
                most = Math.min(most, lists.at(k, 2));
            }
        }
        if (least > most) {
            return STATE;
        }
        int told = what % 2 == 0 ? least : most;
        return what < 2 ? told : Math.max(0, told - stock.ofPaper(paper));
    }

    public int crate(int hour, int door) {
        if (!within(hour, 0, LAST_HOUR) || !within(door, 0, 3)) {
            return BAD;
        }
        return crates.isFull() ? FULL : crates.add(hour, door, 0, 0);
    }

    public int chain(int door, int hours, int shelves) {
        // A telling that holds no hour, or no shelf, is not as told.
        boolean holdsHours = within(hours, 0, 999999) && hours / 1000 < hours % 1000;
        boolean holdsShelves = within(shelves, 0, 9999) && shelves / 100 <= shelves % 100;
        if (!within(door, 0, 3) || !holdsHours || !holdsShelves) {
            return BAD;
        }
        return chains.isFull() ? FULL : chains.add(door, hours, shelves, 0) + 1;
    }

    public int from(int crate) {
        if (!crates.has(crate)) {
            return BAD;
        }
        int least = 0;
        int most = -1;
        for (int k = 0; k < chains.size(); k++) {
            if (holds(k, crate)) {
                int shelves = chains.at(k, 2);
                least = Math.max(least, shelves / 100);
                most = most < 0 ? shelves % 100 : Math.min(most, shelves % 100);
            }
        }
        return least > most ? NONE : 100 * least + most;
    }

    private boolean holds(int telling, int crate) {
        int hour = crates.at(crate, 0);
        int hours = chains.at(telling, 1);
        return chains.at(telling, 0) == crates.at(crate, 1) && hours / 1000 <= hour && hour < hours % 1000;
    }

    public int kind(int coin, int readers) {
        if (!within(coin, 1, 999) || !within(readers, 0, 999)) {
            return BAD;
        }
        return kinds.isFull() ? FULL : kinds.add(coin, readers, 0, 0);
    }

    public int years(int n, int coin, int i) {
        if (!within(n, 1, YearPlan.MOST_YEARS) || !within(coin, 0, 9999)) {
            return BAD;
        }
        if (!within(i, -2, kinds.size() - 1)) {
            return NONE;
        }
        yearPlan.plan(kinds, n, coin);
        switch (i) {
            case -1: return yearPlan.bestReaders;
            case -2: return yearPlan.bestSpent;
            default: return yearPlan.yearOf(i);
        }
    }

    public int count(int what) {
        switch (what) {
            case 0: return stock.hour;
            case 1: return stock.rows.size();
            case 2: return rules.texts;
            case 3: return rules.reader.size;
            case 4: return rules.rule;
            case 5: return trials.size();
            case 6: return hands.size();
            case 7: return leaves.size();
            case 8: return gaps.size();
            case 9: return lists.size();
            case 10: return crates.size();
            case 11: return chains.size();
            case 12: return kinds.size();
            case 13: return stock.roomTaken(Stock.FROZEN, NONE);
            case 14: return stock.roomTaken(Stock.DRYING, NONE);
            default: return BAD;
        }
    }

    // ---- the host

    public int sheet(int sheet, int sort, int n) {
        if (!Sheets.isSheet(sheet) || !within(sort, Sheets.MISSING, 2)) {
            return BAD;
        }
        if (sort != Sheets.MISSING && n > Sheets.MOST) {
            return BAD;
        }
        if (sort != Sheets.MISSING && n < 0) {
            return BELOW_ZERO;
        }
        sheets.renew(sheet, sort, n);
        return 1;
    }

    public int cell(int sheet, int i, int v) {
        if (!Sheets.isSheet(sheet)) {
            return BAD;
        }
        if (sheets.isMissing(sheet)) {
            return NOTHING;
        }
        if (!sheets.has(sheet, i)) {
            return OUTSIDE;
        }
        sheets.put(sheet, i, v);
        return 1;
    }

    public int copy(int sheet, int i, int other, int j, int n) {
        if (!Sheets.isSheet(sheet) || !Sheets.isSheet(other)) {
            return BAD;
        }
        if (sheets.isMissing(sheet) || sheets.isMissing(other)) {
            return NOTHING;
        }
        if (sheets.sortOf(sheet) != sheets.sortOf(other)) {
            return OTHER_SORT;
        }
        if (!sheets.hasRun(sheet, i, n) || !sheets.hasRun(other, j, n)) {
            return OUTSIDE;
        }
        sheets.bring(sheet, i, other, j, n);
        return n;
    }

    public int books(int sheet, int sort, int from, int n) {
        if (!Sheets.isSheet(sheet) || !within(sort, 0, 2) || !within(n, 0, 20)) {
            return BAD;
        }
        if (sheets.isMissing(sheet)) {
            return NOTHING;
        }
        if (sheets.sortOf(sheet) != sort) {
            return OTHER_SORT;
        }
        int came = 0;
        for (int k = 0; k < n; k++) {
            int i = from + 2 * k;
            if (!sheets.has(sheet, i) || !sheets.has(sheet, i + 1)) {
                return OUTSIDE;
            }
            if (book(sheets.at(sheet, i), sheets.at(sheet, i + 1)) >= 0) {
                came++;
            }
        }
        return came;
    }

    public int taken(int book, int k) {
        if (!Stock.isState(k)) {
            return BAD;
        }
        if (!stock.rows.has(book)) {
            return NOTHING;
        }
        return Stock.isUnder(stock.stateOf(book), k) ? stock.rows.at(book, Stock.SIZE) : OTHER_SORT;
    }

    private static boolean within(int v, int least, int most) {
        return v >= least && v <= most;
    }

    /** Whether all the bits are bits of things numbered below a number (30 at most). */
    private static boolean areOf(int bits, int number) {
        return bits >>> number == 0;
    }

    /** Rows of numbers, one behind the other, so many at most. What is outside reads as 0. */
    private static final class Rows {
        private final int most;
        private final int width;
        private final int[] cells;
        private int size;

        Rows(int most, int width) {
            this.most = Math.max(0, most);
            this.width = Math.max(0, width);
            cells = new int[this.most * this.width];
        }

        int size() {
            return size;
        }

        boolean isFull() {
            return size >= most;
        }

        boolean has(int row) {
            return row >= 0 && row < size;
        }

        int at(int row, int column) {
            boolean is = row >= 0 && row < size && column >= 0 && column < width;
            return is ? cells[row * width + column] : 0;
        }

        void put(int row, int column, int v) {
            if (row >= 0 && row < size && column >= 0 && column < width) {
                cells[row * width + column] = v;
            }
        }

        /** The new row's number; NONE if no more has room. */
        int add(int a, int b, int c, int d) {
            if (isFull()) {
                return NONE;
            }
            size++;
            put(size - 1, 0, a);
            put(size - 1, 1, b);
            put(size - 1, 2, c);
            put(size - 1, 3, d);
            return size - 1;
        }

        void becomeLike(Rows other) {
            if (other.cells.length == cells.length) {
                System.arraycopy(other.cells, 0, cells, 0, cells.length);
                size = other.size;
            }
        }
    }

    /** All that an hour changes: the books, the hour itself, heat, rooms and coin. */
    private static final class Stock {
        static final int DONE = 0, WET = 1, FROZEN = 2, DRYING = 3, BLOCK = 4, WASHED = 5;
        // The columns of a book stand as bookTold numbers them.
        static final int STATE_NOW = 0, PAPER = 1, INK = 2, SIZE = 3, WORTH = 4, MOULD = 5, HARM = 6, SINCE = 7;
        private static final int HARMFUL = 100, MOST_GROWN = 1000, NEVER = 1000000;
        private static final int[] UNDER = {-1, DONE, DONE, DONE, WET, DRYING};

        private final Rows rows = new Rows(24, 8);
        private int hour = 0;
        private int heat = 10;
        private int freezers = 200;
        private int barns = 300;
        private int coin = 0;

        static boolean isState(int state) {
            return within(state, DONE, WASHED);
        }

        static boolean isLook(int look) {
            return within(look, 0, 3999) && look / 100 % 10 <= 3 && look % 100 >= 1;
        }

        static boolean isUnder(int state, int above) {
            int s = state;
            for (int k = 0; k < UNDER.length && s >= 0 && s < UNDER.length; k++) {
                if (s == above) {
                    return true;
                }
                s = UNDER[s];
            }
            return false;
        }

        /** Whether one may be moved from a state to another, as far as the states go. */
        static boolean leads(int before, int to) {
            switch (to) {
                case WET: return before == FROZEN;
                case FROZEN: return before == WET || before == BLOCK;
                case DRYING: return before == WET || before == FROZEN || before == BLOCK;
                case WASHED: return before == DRYING;
                default: return false;
            }
        }

        static int mouldGrowth(int state, int heat) {
            int wet = 2 + heat / 10;
            switch (state) {
                case WET: return wet;
                case BLOCK: return 2 * wet + 5;
                case DRYING: return 1;
                default: return 0;
            }
        }

        static int harmGrowth(int state) {
            switch (state) {
                case WET: return 3;
                case BLOCK: return 3 + 4;
                case DRYING: case WASHED: return 1;
                default: return 0;
            }
        }

        static int cost(int state, int size) {
            switch (state) {
                case FROZEN: return size / 20 + 1;
                case DRYING: return 2;
                case WASHED: return 2 + 3;
                default: return 0;
            }
        }

        static int room(int state, int size) {
            switch (state) {
                case WET: case FROZEN: return size;
                case DRYING: case WASHED: return 2 * size;
                case BLOCK: return size / 2 + 1;
                default: return 0;
            }
        }

        /** For how many hours one is in a state till it leaves it by itself. */
        static int lasts(int state) {
            switch (state) {
                case WET: return 48;
                case DRYING: return 72;
                case WASHED: return 96;
                default: return NEVER;
            }
        }

        /** In how many hours mould is so much that it harms: 0 now, NONE never. */
        static int hoursTillHarm(int mould, int growth) {
            if (mould >= HARMFUL) {
                return 0;
            }
            return growth <= 0 ? NONE : (HARMFUL - 1 - mould) / growth + 1;
        }

        int setting(int what, int v) {
            int was;
            switch (what) {
                case 0: was = heat; heat = v; break;
                case 1: was = freezers; freezers = v; break;
                case 2: was = barns; barns = v; break;
                default: was = coin; coin = v; break;
            }
            return was;
        }

        int come(int look, int worth) {
            int book = rows.add(WET, look / 1000, look / 100 % 10, look % 100);
            rows.put(book, WORTH, worth);
            rows.put(book, MOULD, 0);
            rows.put(book, HARM, 0);
            rows.put(book, SINCE, hour);
            return book;
        }

        int stateOf(int book) {
            return rows.at(book, STATE_NOW);
        }

        int costOf(int book) {
            return cost(stateOf(book), rows.at(book, SIZE));
        }

        int roomOf(int book) {
            return room(stateOf(book), rows.at(book, SIZE));
        }

        int mouldGrowthOf(int book) {
            return mouldGrowth(stateOf(book), heat);
        }

        int ofPaper(int paper) {
            int number = 0;
            for (int book = 0; book < rows.size(); book++) {
                number += rows.at(book, PAPER) == paper ? 1 : 0;
            }
            return number;
        }

        /** The room that all of a state, or under it, take, but for one book. */
        int roomTaken(int above, int but) {
            int taken = 0;
            for (int book = 0; book < rows.size(); book++) {
                int state = rows.at(book, STATE_NOW);
                if (book != but && isUnder(state, above)) {
                    taken += room(state, rows.at(book, SIZE));
                }
            }
            return taken;
        }

        /** A book's own room is free for it. Barns hold what dries, and what is washed as it is under that. */
        boolean hasRoomFor(int book, int to) {
            int comes = room(to, rows.at(book, SIZE));
            if (to == FROZEN) {
                return roomTaken(FROZEN, book) + comes <= freezers;
            }
            return !isUnder(to, DRYING) || roomTaken(DRYING, book) + comes <= barns;
        }

        void become(int book, int state, int since) {
            rows.put(book, STATE_NOW, state);
            rows.put(book, SINCE, since);
        }

        void dryIfItCan(int book) {
            if (leads(stateOf(book), DRYING) && hasRoomFor(book, DRYING)) {
                become(book, DRYING, hour);
            }
        }

        /** Books do nothing to one another in an hour, so each goes through all hours by itself. */
        void goBy(int hours) {
            for (int book = 0; book < rows.size(); book++) {
                goByFor(book, hours);
            }
            hour += hours;
        }

        private void goByFor(int book, int hours) {
            int end = hour + hours;
            int now = hour;
            while (now < end) {
                int change = rows.at(book, SINCE) + lasts(stateOf(book));
                int till = Math.max(now + 1, Math.min(end, change));
                stay(book, till - now);
                now = till;
                if (now >= change) {
                    become(book, stateOf(book) == WET ? BLOCK : DONE, now);
                }
            }
        }

        /** A book stays in its state for some hours: mould grows ahead of harm in each of them. */
        private void stay(int book, int hours) {
            int state = rows.at(book, STATE_NOW);
            int mould = rows.at(book, MOULD);
            int growth = mouldGrowth(state, heat);
            int till = hoursTillHarm(mould, growth);
            int harmful = till == NONE ? 0 : Math.max(0, hours - Math.max(0, till - 1));
            int harm = rows.at(book, HARM) + harmful * harmGrowth(state);
            coin -= hours * cost(state, rows.at(book, SIZE));
            rows.put(book, MOULD, Math.min(MOST_GROWN, mould + hours * growth));
            rows.put(book, HARM, Math.min(MOST_GROWN, harm));
        }

        /** What a name of a text comes to, names numbered as the reader does. */
        int named(int book, int name) {
            switch (name) {
                case 0: return rows.at(book, MOULD);
                case 1: return rows.at(book, INK);
                case 2: return rows.at(book, PAPER);
                case 3: return rows.at(book, WORTH);
                case 4: return hour - rows.at(book, SINCE);
                default: return rows.at(book, SIZE);
            }
        }

        void becomeLike(Stock other) {
            rows.becomeLike(other.rows);
            hour = other.hour;
            heat = other.heat;
            freezers = other.freezers;
            barns = other.barns;
            coin = other.coin;
        }
    }

    /** The tape, and what reads a text from it: into steps, what belongs to a sign ahead of it. */
    private static final class TextReader {
        static final int MOST_BYTES = 160, PARTS = 3;
        // Steps: 0 and more is a number, -1 .. -6 are the names, these are the signs.
        static final int OR_STEP = -11, AND_STEP = -12, NOT_STEP = -13, MINUS_STEP = -14, ADD_STEP = -15,
            LESS_BY_STEP = -16, TIMES_STEP = -17, BELOW_STEP = -18, LIKE_STEP = -19;
        private static final int MOST_OPEN = 5, MOST_DIGITS = 4;
        // Tokens: a sign is its own byte; these are the others, keys in the order of WORDS.
        private static final int END = 1000, BROKEN = 1001, NUMBER = 1002, NAME = 1003;
        private static final int FIRST = 2000, OR = 2003, AND = 2004, NOT = 2005;
        private static final int NAMES = 6, WORDS_KNOWN = 12, WORD_ROOM = 6;
        private static final String WORDS =
            "mould ink   paper worth age   size  first may   value or    and   not   ";
        private static final String SIGNS = "();+-*<=";

        private final int[] tape = new int[MOST_BYTES];
        private int size;
        private int place;
        private int start;
        private int token;
        private int value;
        private int open;
        private int fault;
        private int[] steps = new int[0];
        private int length;

        /** How many bytes the tape has when so many more have come. */
        int take(int n, long bytes) {
            if (size + n > MOST_BYTES) {
                return FULL;
            }
            for (int k = 0; k < n; k++) {
                takeByte((int) (bytes >>> 8 * k & 255));
            }
            return size;
        }

        void takeByte(int b) {
            if (size < MOST_BYTES) {
                tape[size] = b;
                size++;
            }
        }

        /** Reads the tape, which is empty then, into steps: the place of the fault, or NONE. */
        int read(int[] steps, int[] ends) {
            this.steps = steps;
            place = 0;
            open = 0;
            length = 0;
            fault = NONE;
            advance();
            for (int part = 0; part < PARTS && part < ends.length; part++) {
                expect(FIRST + part);
                either();
                expect(';');
                ends[part] = length;
            }
            expect(END);
            size = 0;
            return fault;
        }

        private int byteAt(int i) {
            return i >= 0 && i < size && i < MOST_BYTES ? tape[i] : 0;
        }

        private static boolean isLetter(int b) {
            return b >= 'a' && b <= 'z';
        }

        private static boolean isDigit(int b) {
            return b >= '0' && b <= '9';
        }

        private void advance() {
            while (place < size && (byteAt(place) == 32 || byteAt(place) == 10)) {
                place++;
            }
            start = place;
            int b = byteAt(place);
            if (place >= size) {
                token = END;
            } else if (isLetter(b)) {
                advanceWord();
            } else if (isDigit(b)) {
                advanceNumber();
            } else {
                token = SIGNS.indexOf((char) b) >= 0 ? b : BROKEN;
                place++;
            }
        }

        private void advanceWord() {
            while (place < size && isLetter(byteAt(place))) {
                place++;
            }
            token = BROKEN;
            for (int word = 0; word < WORDS_KNOWN; word++) {
                if (isWord(word)) {
                    token = word < NAMES ? NAME : FIRST + word - NAMES;
                    value = word;
                }
            }
        }

        private boolean isWord(int word) {
            int letters = place - start;
            int at = word * WORD_ROOM;
            if (letters >= WORD_ROOM || at < 0 || at + WORD_ROOM > WORDS.length()) {
                return false;
            }
            for (int k = 0; k < letters && start + k < tape.length; k++) {
                if (WORDS.charAt(at + k) != tape[start + k]) {
                    return false;
                }
            }
            return WORDS.charAt(at + letters) == ' ';
        }

        private void advanceNumber() {
            value = 0;
            while (place < size && isDigit(byteAt(place))) {
                value = value * 10 + byteAt(place) - '0';
                place++;
            }
            token = place - start > MOST_DIGITS ? BROKEN : NUMBER;
        }

        /** The first fault counts. Behind it no token fits, so that all that is open ends. */
        private void refuse() {
            if (fault == NONE) {
                fault = start;
            }
            token = BROKEN;
        }

        private void expect(int due) {
            if (token != due) {
                refuse();
            } else if (due != END) {
                advance();
            }
        }

        private void step(int step) {
            if (length < steps.length) {
                steps[length] = step;
                length++;
            }
        }

        private boolean opens() {
            if (open >= MOST_OPEN) {
                refuse();
                return false;
            }
            open++;
            return true;
        }

        private void either() {
            both();
            for (int k = 0; k < MOST_BYTES && token == OR; k++) {
                advance();
                both();
                step(OR_STEP);
            }
        }

        private void both() {
            notOrCompared();
            for (int k = 0; k < MOST_BYTES && token == AND; k++) {
                advance();
                notOrCompared();
                step(AND_STEP);
            }
        }

        /** What is opened here ends with what stands behind it, the last one first. */
        private void notOrCompared() {
            int before = open;
            for (int k = 0; k <= MOST_OPEN && token == NOT && opens(); k++) {
                advance();
            }
            sum();
            if (token == '<' || token == '=') {
                int compares = token == '<' ? BELOW_STEP : LIKE_STEP;
                advance();
                sum();
                step(compares);
            }
            for (; open > before; open--) {
                step(NOT_STEP);
            }
        }

        private void sum() {
            term();
            for (int k = 0; k < MOST_BYTES && (token == '+' || token == '-'); k++) {
                int adds = token == '+' ? ADD_STEP : LESS_BY_STEP;
                advance();
                term();
                step(adds);
            }
        }

        private void term() {
            one();
            for (int k = 0; k < MOST_BYTES && token == '*'; k++) {
                advance();
                one();
                step(TIMES_STEP);
            }
        }

        private void one() {
            int before = open;
            for (int k = 0; k <= MOST_OPEN && token == '-' && opens(); k++) {
                advance();
            }
            switch (token) {
                case NUMBER:
                    step(value);
                    advance();
                    break;
                case NAME:
                    step(-1 - value);
                    advance();
                    break;
                case '(':
                    if (opens()) {
                        advance();
                        either();
                        open--;
                        expect(')');
                    }
                    break;
                default:
                    refuse();
            }
            for (; open > before; open--) {
                step(MINUS_STEP);
            }
        }
    }

    /** The texts, one of which is the rule, and what the rule says of books. */
    private static final class Rules {
        static final int GOES_FIRST = 0, MAY = 1, VALUE = 2;
        private static final int MOST = 6, FAULTS = -100;
        private static final String TEXT_0 = "first mould + worth ; may ink < 2 ; value worth ;";

        private final TextReader reader = new TextReader();
        private final int[][] steps = new int[MOST][TextReader.MOST_BYTES];
        private final int[][] ends = new int[MOST][TextReader.PARTS];
        private final int[] stack = new int[TextReader.MOST_BYTES];
        private final int[] firsts = new int[24];
        private int top;
        private int texts;
        private int rule;

        void takeTextZero() {
            for (int k = 0; k < TEXT_0.length(); k++) {
                reader.takeByte(TEXT_0.charAt(k));
            }
        }

        int readText() {
            if (texts >= MOST) {
                return FULL;
            }
            int fault = reader.read(steps[texts], ends[texts]);
            if (fault != NONE) {
                return FAULTS - fault;
            }
            texts++;
            return texts - 1;
        }

        boolean hasText(int text) {
            return text >= 0 && text < texts;
        }

        int becomeRule(int text) {
            int was = rule;
            rule = text;
            return was;
        }

        int comesTo(Stock stock, int book, int part) {
            if (!hasText(rule) || !within(part, 0, TextReader.PARTS - 1)) {
                return 0;
            }
            int[] row = steps[rule];
            int end = Math.min(row.length, ends[rule][part]);
            top = 0;
            for (int k = part == 0 ? 0 : Math.max(0, ends[rule][part - 1]); k < end; k++) {
                int step = row[k];
                if (step >= 0) {
                    push(step);
                } else if (step > TextReader.OR_STEP) {
                    push(stock.named(book, -1 - step));
                } else if (step == TextReader.NOT_STEP) {
                    push(pop() == 0 ? 1 : 0);
                } else if (step == TextReader.MINUS_STEP) {
                    push(-pop());
                } else {
                    int b = pop();
                    push(ofTwo(step, pop(), b));
                }
            }
            return pop();
        }

        private void push(int v) {
            if (top < stack.length) {
                stack[top] = v;
                top++;
            }
        }

        private int pop() {
            if (top <= 0) {
                return 0;
            }
            top--;
            return stack[top];
        }

        private static int ofTwo(int step, int a, int b) {
            switch (step) {
                case TextReader.OR_STEP: return a != 0 || b != 0 ? 1 : 0;
                case TextReader.AND_STEP: return a != 0 && b != 0 ? 1 : 0;
                case TextReader.ADD_STEP: return a + b;
                case TextReader.LESS_BY_STEP: return a - b;
                case TextReader.TIMES_STEP: return a * b;
                case TextReader.BELOW_STEP: return a < b ? 1 : 0;
                default: return a == b ? 1 : 0;
            }
        }

        long lostOfBook(Stock stock, int book) {
            return lostOf(comesTo(stock, book, VALUE), stock.rows.at(book, Stock.HARM));
        }

        private static long lostOf(int value, int harm) {
            return (long) Math.max(0, value) * harm / 100;
        }

        long lostOfAll(Stock stock) {
            long lost = 0;
            for (int book = 0; book < stock.rows.size(); book++) {
                lost += lostOf(comesTo(stock, book, VALUE), stock.rows.at(book, Stock.HARM));
            }
            return lost;
        }

        int nextOf(Stock stock, int i) {
            int books = Math.min(firsts.length, stock.rows.size());
            for (int book = 0; book < books; book++) {
                firsts[book] = comesTo(stock, book, GOES_FIRST);
            }
            for (int book = 0; book < books; book++) {
                if (stock.stateOf(book) != Stock.DONE && goingAhead(stock, book, books) == i) {
                    return book;
                }
            }
            return NONE;
        }

        private int goingAhead(Stock stock, int book, int books) {
            int ahead = 0;
            for (int other = 0; other < books; other++) {
                boolean is = firsts[other] > firsts[book] || firsts[other] == firsts[book] && other < book;
                ahead += is && stock.stateOf(other) != Stock.DONE ? 1 : 0;
            }
            return ahead;
        }
    }

    /** In which order told books are put to dry. Each turn has a stock of its own, so nothing changes. */
    private static final class Lots {
        static final int MOST = 5;
        private static final int MOST_THOUSANDS = 2147483647;
        private static final long MORE_THAN_ALL = 9223372036854775807L;

        private final Stock[] beside = new Stock[MOST + 1];
        private final int[] order = new int[MOST];
        private final int[] bestOrder = new int[MOST];
        private long bestLost;
        private Rules rules;
        private int hours;

        Lots() {
            for (int k = 0; k <= MOST; k++) {
                beside[k] = new Stock();
            }
        }

        void plan(Stock stock, Rules rules, int books, int hours) {
            this.rules = rules;
            this.hours = hours;
            bestLost = MORE_THAN_ALL;
            beside[0].becomeLike(stock);
            takeTurns(this, 0, books);
        }

        /** Orders come with the least first books first, so just a lesser loss is a better one. */
        private static void takeTurns(Lots lots, int turn, int books) {
            if (books == 0 || turn >= MOST) {
                lots.keepIfBetter(lots.rules.lostOfAll(lots.beside[turn]));
                return;
            }
            Stock before = lots.beside[turn];
            Stock then = lots.beside[turn + 1];
            for (int book = 0; book < before.rows.size(); book++) {
                if ((books >> book & 1) == 1) {
                    then.becomeLike(before);
                    then.dryIfItCan(book);
                    then.goBy(lots.hours);
                    lots.order[turn] = book;
                    takeTurns(lots, turn + 1, books & ~(1 << book));
                }
            }
        }

        private void keepIfBetter(long lost) {
            if (lost < bestLost) {
                bestLost = lost;
                System.arraycopy(order, 0, bestOrder, 0, MOST);
            }
        }

        int lostInThousands() {
            return (int) Math.min(MOST_THOUSANDS, bestLost / 1000);
        }

        int bookAt(int i) {
            return i >= 0 && i < MOST ? bestOrder[i] : NONE;
        }
    }

    /** Leaves joined to gaps so that most marks agree. */
    private static final class Joins {
        private static final int MOST = 6, SETS = 64, MARKS = 4, UNKNOWN = 10;

        private final int[][] agreed = new int[MOST][MOST];
        // mostBehind[leaf][gaps]: the most marks of this leaf and those behind it when these gaps are joined.
        private final int[][] mostBehind = new int[MOST + 1][SETS];
        private int gapNumber;

        static int agreement(int leafMarks, int gapMarks) {
            int leafLeft = leafMarks;
            int gapLeft = gapMarks;
            int alike = 0;
            for (int k = 0; k < MARKS; k++) {
                int known = gapLeft % 11;
                if (known != UNKNOWN && known == leafLeft % 10) {
                    alike++;
                } else if (known != UNKNOWN && k == 0) {
                    return 0;
                }
                leafLeft /= 10;
                gapLeft /= 11;
            }
            return alike;
        }

        void join(Rows leaves, Rows gaps) {
            int leafNumber = Math.min(MOST, leaves.size());
            gapNumber = Math.min(MOST, gaps.size());
            Arrays.fill(mostBehind[leafNumber], 0);
            for (int leaf = leafNumber - 1; leaf >= 0; leaf--) {
                for (int gap = 0; gap < gapNumber; gap++) {
                    agreed[leaf][gap] = agreement(leaves.at(leaf, 0), gaps.at(gap, 0));
                }
                for (int set = 0; set < SETS; set++) {
                    mostBehind[leaf][set] = mostWith(leaf, set);
                }
            }
        }

        private int mostWith(int leaf, int set) {
            int most = mostBehind[leaf + 1][set];
            for (int gap = 0; gap < gapNumber; gap++) {
                if (canJoin(leaf, gap, set)) {
                    most = Math.max(most, withGap(leaf, gap, set));
                }
            }
            return most;
        }

        private boolean canJoin(int leaf, int gap, int set) {
            return (set >> gap & 1) == 0 && agreed[leaf][gap] > 0;
        }

        private int withGap(int leaf, int gap, int set) {
            return agreed[leaf][gap] + mostBehind[leaf + 1][set | 1 << gap];
        }

        int mostMarks() {
            return mostBehind[0][0];
        }

        int gapOf(int leaf) {
            int set = 0;
            int has = NONE;
            for (int k = 0; k <= leaf && k < MOST; k++) {
                has = leastGap(k, set);
                set |= has == NONE ? 0 : 1 << has;
            }
            return has;
        }

        private int leastGap(int leaf, int set) {
            for (int gap = 0; gap < gapNumber; gap++) {
                if (canJoin(leaf, gap, set) && withGap(leaf, gap, set) == mostBehind[leaf][set]) {
                    return gap;
                }
            }
            return NONE;
        }
    }

    /** In which year each kind is done, so that most readers have most. */
    private static final class YearPlan {
        static final int MOST_YEARS = 4;
        private static final int MOST_KINDS = 6, COIN = 0, READERS = 1;

        private final int[] spentIn = new int[MOST_YEARS];
        private final int[] doneIn = new int[MOST_KINDS];
        private final int[] bestDoneIn = new int[MOST_KINDS];
        private Rows kinds;
        private int years;
        private int coin;
        private int bestReaders;
        private int bestSpent;

        void plan(Rows kinds, int years, int coin) {
            this.kinds = kinds;
            this.years = Math.min(MOST_YEARS, years);
            this.coin = coin;
            bestReaders = -1;
            bestSpent = 0;
            Arrays.fill(spentIn, 0);
            choose(this, 0, 0, 0);
        }

        /** Plans come with the earliest years of the first kinds first, so of like ones the first stays. */
        private static void choose(YearPlan plan, int kind, int readers, int spent) {
            if (kind >= plan.kinds.size() || kind >= MOST_KINDS) {
                plan.keepIfBetter(readers, spent);
                return;
            }
            int price = plan.kinds.at(kind, COIN);
            int readersAYear = plan.kinds.at(kind, READERS);
            for (int year = 0; year < plan.years; year++) {
                if (plan.canSpend(price, year)) {
                    plan.spentIn[year] += price;
                    plan.doneIn[kind] = year;
                    choose(plan, kind + 1, readers + readersAYear * (plan.years - year), spent + price);
                    plan.spentIn[year] -= price;
                }
            }
            plan.doneIn[kind] = NONE;
            choose(plan, kind + 1, readers, spent);
        }

        /** What is spent in a year is missing in it and in all behind it. */
        private boolean canSpend(int price, int inYear) {
            int has = -price;
            for (int year = 0; year < years; year++) {
                has += coin - spentIn[year];
                if (year >= inYear && has < 0) {
                    return false;
                }
            }
            return true;
        }

        private void keepIfBetter(int readers, int spent) {
            if (readers > bestReaders || readers == bestReaders && spent < bestSpent) {
                bestReaders = readers;
                bestSpent = spent;
                System.arraycopy(doneIn, 0, bestDoneIn, 0, MOST_KINDS);
            }
        }

        int yearOf(int kind) {
            return kind >= 0 && kind < MOST_KINDS ? bestDoneIn[kind] : NONE;
        }
    }

    /** Four rows of numbers, each of a sort or missing. */
    private static final class Sheets {
        static final int MISSING = -1, BYTES = 0, SHORTS = 1, MOST = 40;
        private static final int SHEETS = 4;

        private final int[][] cells = new int[SHEETS][MOST];
        private final int[] sorts = {MISSING, MISSING, MISSING, MISSING};
        private final int[] sizes = new int[SHEETS];

        static boolean isSheet(int sheet) {
            return sheet >= 0 && sheet < SHEETS;
        }

        int sortOf(int sheet) {
            return isSheet(sheet) ? sorts[sheet] : MISSING;
        }

        boolean isMissing(int sheet) {
            return sortOf(sheet) == MISSING;
        }

        void renew(int sheet, int sort, int n) {
            if (isSheet(sheet)) {
                sorts[sheet] = sort;
                sizes[sheet] = sort == MISSING ? 0 : Math.max(0, Math.min(MOST, n));
                Arrays.fill(cells[sheet], 0);
            }
        }

        boolean has(int sheet, int i) {
            return isSheet(sheet) && i >= 0 && i < sizes[sheet];
        }

        /** Whether n items from one on are there; none may begin behind the last one. */
        boolean hasRun(int sheet, int i, int n) {
            return isSheet(sheet) && i >= 0 && n >= 0 && i <= sizes[sheet] && n <= sizes[sheet] - i;
        }

        int at(int sheet, int i) {
            return has(sheet, i) ? cells[sheet][i] : 0;
        }

        void put(int sheet, int i, int v) {
            if (has(sheet, i)) {
                int sort = sorts[sheet];
                cells[sheet][i] = sort == BYTES ? (byte) v : sort == SHORTS ? (short) v : v;
            }
        }

        void bring(int sheet, int i, int other, int j, int n) {
            if (hasRun(sheet, i, n) && hasRun(other, j, n)) {
                System.arraycopy(cells[sheet], i, cells[other], j, n);
            }
        }
    }
}
