import java.util.ArrayList;
import java.util.Arrays;
import java.util.List;

/** The document again, as slow and plain as can be, for random runs to be held against. */
final class Model {
    static final int NONE = -1, BAD = -2, STATE = -3, FULL = -4;
    static final long NO = -4611686018427387904L;

    static final class Book implements Cloneable {
        int paper, ink, size, worth, mould, harm, state = 1, since;

        Book twin() {
            Book b = new Book();
            b.paper = paper;
            b.ink = ink;
            b.size = size;
            b.worth = worth;
            b.mould = mould;
            b.harm = harm;
            b.state = state;
            b.since = since;
            return b;
        }

        boolean under(int k) {
            return k == 0 || k == state || k == 1 && state == 4 || k == 3 && state == 5;
        }
    }

    int hour, heat = 10, freezers = 200, barns = 300, rule;
    long coin;
    List<Book> books = new ArrayList<>();
    StringBuilder tape = new StringBuilder();
    List<TextModel> texts = new ArrayList<>();
    List<int[]> trials = new ArrayList<>(), hands = new ArrayList<>(), leaves = new ArrayList<>(),
        gaps = new ArrayList<>(), lists = new ArrayList<>(), crates = new ArrayList<>(),
        chains = new ArrayList<>(), kinds = new ArrayList<>();
    Object[] sheets = new Object[4];

    Model() {
        texts.add(new TextModel("first mould + worth ; may ink < 2 ; value worth ;"));
    }

    Model twin() {
        Model m = new Model();
        m.hour = hour;
        m.heat = heat;
        m.freezers = freezers;
        m.barns = barns;
        m.rule = rule;
        m.texts = texts;
        m.trials = trials;
        for (Book b : books) {
            m.books.add(b.twin());
        }
        return m;
    }

    long set(int what, int v) {
        if (what < 0 || what > 3 || v < 0 || v > new int[] {40, 9999, 9999, 999999}[what]) {
            return NO;
        }
        long was = new long[] {heat, freezers, barns, coin}[what];
        if (what == 0) {
            heat = v;
        } else if (what == 1) {
            freezers = v;
        } else if (what == 2) {
            barns = v;
        } else {
            coin = v;
        }
        return was;
    }

    int pass(int n) {
        if (n < 1 || n > 100) {
            return BAD;
        }
        if (hour + n > 999) {
            return FULL;
        }
        for (int k = 0; k < n; k++) {
            anHour();
        }
        return hour;
    }

    void anHour() {
        hour++;
        for (Book b : books) {
            coin -= cost(b);
            b.mould = Math.min(1000, b.mould + mouldGrowth(b));
            if (b.mould >= 100) {
                b.harm = Math.min(1000, b.harm + harmGrowth(b));
            }
            int age = hour - b.since;
            if (b.state == 1 && age >= 48) {
                b.state = 4;
                b.since = hour;
            } else if (b.state == 3 && age >= 72 || b.state == 5 && age >= 96) {
                b.state = 0;
                b.since = hour;
            }
        }
    }

    int mouldGrowth(Book b) {
        int wet = heat / 10 + 2;
        return new int[] {0, wet, 0, 1, wet + wet + 5, 0}[b.state];
    }

    static int harmGrowth(Book b) {
        return new int[] {0, 3, 0, 1, 7, 1}[b.state];
    }

    static int cost(Book b) {
        return new int[] {0, 0, 1 + b.size / 20, 2, 0, 5}[b.state];
    }

    static int room(int state, int size) {
        return new int[] {0, size, size, size + size, 1 + size / 2, size + size}[state];
    }

    int book(int look, int worth) {
        int paper = look / 1000, ink = look % 1000 / 100, size = look % 100;
        if (look < 0 || paper > 3 || ink > 3 || size < 1 || worth < 0 || worth > 999) {
            return BAD;
        }
        if (books.size() == 24) {
            return FULL;
        }
        Book b = new Book();
        b.paper = paper;
        b.ink = ink;
        b.size = size;
        b.worth = worth;
        b.since = hour;
        books.add(b);
        return books.size() - 1;
    }

    boolean isBook(int book) {
        return book >= 0 && book < books.size();
    }

    int bookTold(int book, int what) {
        if (!isBook(book) || what < 0 || what > 11) {
            return BAD;
        }
        Book b = books.get(book);
        return new int[] {b.state, b.paper, b.ink, b.size, b.worth, b.mould, b.harm, b.since,
            cost(b), room(b.state, b.size), mouldGrowth(b), harmGrowth(b)}[what];
    }

    static boolean leads(int before, int state) {
        return Arrays.asList("12", "42", "13", "23", "43", "35", "21").contains("" + before + state);
    }

    int roomOf(int state, Book but) {
        int taken = 0;
        for (Book b : books) {
            taken += b != but && b.under(state) ? room(b.state, b.size) : 0;
        }
        return taken;
    }

    boolean fits(Book b, int state) {
        if (state == 2) {
            return roomOf(2, b) + b.size <= freezers;
        }
        return state == 1 || roomOf(3, b) + 2 * b.size <= barns;
    }

    int move(int book, int state) {
        if (!isBook(book) || state < 0 || state > 5) {
            return BAD;
        }
        Book b = books.get(book);
        int before = b.state;
        if (!leads(before, state)) {
            return STATE;
        }
        if (state == 5 && (says(book, 1) == 0 || barred(b.ink, b.paper, hour) == 1)) {
            return STATE;
        }
        if (!fits(b, state)) {
            return FULL;
        }
        b.state = state;
        b.since = hour;
        return before;
    }

    int left(int book) {
        if (!isBook(book)) {
            return BAD;
        }
        int mould = books.get(book).mould;
        for (int hours = 0; hours <= 200; hours++) {
            if (mould >= 100) {
                return hours;
            }
            mould += mouldGrowth(books.get(book));
        }
        return NONE;
    }

    int next(int i) {
        List<Integer> order = new ArrayList<>();
        for (int book = 0; book < books.size(); book++) {
            if (books.get(book).state != 0) {
                order.add(book);
            }
        }
        order.sort((a, b) -> {
            int c = Long.compare(says(b, 0), says(a, 0));
            return c != 0 ? c : Integer.compare(a, b);
        });
        return i < 0 || i >= order.size() ? NONE : order.get(i);
    }

    long lost(int book) {
        if (book == -1) {
            long all = 0;
            for (int k = 0; k < books.size(); k++) {
                all += lost(k);
            }
            return all;
        }
        return isBook(book) ? Math.max(0, says(book, 2)) * books.get(book).harm / 100 : NO;
    }

    int feed(int n, long bytes) {
        if (n < 1 || n > 8) {
            return BAD;
        }
        if (tape.length() + n > 160) {
            return FULL;
        }
        for (int k = 0; k < n; k++) {
            tape.append((char) (bytes & 255));
            bytes >>= 8;
        }
        return tape.length();
    }

    int text() {
        if (texts.size() == 6) {
            return FULL;
        }
        TextModel t = new TextModel(tape.toString());
        tape.setLength(0);
        if (t.fault >= 0) {
            return -100 - t.fault;
        }
        texts.add(t);
        return texts.size() - 1;
    }

    int force(int text) {
        if (text < 0 || text >= texts.size()) {
            return BAD;
        }
        int was = rule;
        rule = text;
        return was;
    }

    long says(int book, int part) {
        if (!isBook(book) || part < 0 || part > 2) {
            return NO;
        }
        Book b = books.get(book);
        return texts.get(rule).value(part, b.mould, b.ink, b.paper, b.worth, hour - b.since, b.size);
    }

    static boolean out(int v, int least, int most) {
        return v < least || v > most;
    }

    static int add(List<int[]> rows, int most, int... row) {
        if (rows.size() >= most) {
            return FULL;
        }
        rows.add(row);
        return rows.size() - 1;
    }

    static int more(int number) {
        return number < 0 ? number : number + 1;
    }

    int trial(int ink, int paper, int ran) {
        return out(ink, 0, 3) || out(paper, 0, 3) || out(ran, 0, 1) ? BAD : more(add(trials, 30, ink, paper, ran, hour));
    }

    int barred(int ink, int paper, int known) {
        if (out(ink, 0, 3) || out(paper, 0, 3) || out(known, 0, hour)) {
            return BAD;
        }
        int ran = 0;
        for (int[] t : trials) {
            ran = t[0] == ink && t[1] == paper && t[3] <= known ? t[2] : ran;
        }
        return ran;
    }

    int lots(int bits, int n, int i) {
        List<Integer> told = new ArrayList<>();
        for (int k = 0; k < 32; k++) {
            if ((bits >>> k & 1) == 1) {
                told.add(k);
            }
        }
        for (int k : told) {
            if (k >= books.size()) {
                return BAD;
            }
        }
        if (told.size() > 5 || n < 1 || n > 24) {
            return BAD;
        }
        if (hour + told.size() * n > 999) {
            return FULL;
        }
        if (i < -1 || i >= told.size()) {
            return NONE;
        }
        List<List<Integer>> orders = new ArrayList<>();
        orders(told, new ArrayList<>(), orders);
        long least = Long.MAX_VALUE;
        List<Integer> best = null;
        for (List<Integer> order : orders) {
            Model m = twin();
            for (int b : order) {
                Book book = m.books.get(b);
                if (leads(book.state, 3) && m.fits(book, 3)) {
                    book.state = 3;
                    book.since = m.hour;
                }
                for (int k = 0; k < n; k++) {
                    m.anHour();
                }
            }
            long lost = m.lost(-1);
            if (lost < least || lost == least && isAhead(order, best)) {
                least = lost;
                best = order;
            }
        }
        return i == -1 ? (int) Math.min(2147483647L, least / 1000) : best.get(i);
    }

    static boolean isAhead(List<Integer> a, List<Integer> b) {
        for (int k = 0; k < a.size(); k++) {
            int c = Integer.compare(a.get(k), b.get(k));
            if (c != 0) {
                return c < 0;
            }
        }
        return false;
    }

    static void orders(List<Integer> rest, List<Integer> ahead, List<List<Integer>> all) {
        if (rest.isEmpty()) {
            all.add(new ArrayList<>(ahead));
        }
        for (int k = rest.size() - 1; k >= 0; k--) {
            List<Integer> less = new ArrayList<>(rest);
            ahead.add(less.remove(k));
            orders(less, ahead, all);
            ahead.remove(ahead.size() - 1);
        }
    }

    int hand(int skill, int learns) {
        return out(skill, 0, 99) || out(learns, 0, 9) ? BAD : add(hands, 6, skill, learns, hour);
    }

    int pace(int bits) {
        int pace = 0;
        for (int k = 0; k < 32; k++) {
            if ((bits >>> k & 1) == 1) {
                if (k >= hands.size()) {
                    return BAD;
                }
                int[] h = hands.get(k);
                int skill = h[0];
                for (int at = h[2] + 168; at <= hour; at += 168) {
                    skill += h[1];
                }
                pace += Math.min(99, skill);
            }
        }
        return pace;
    }

    int leaf(int marks) {
        return out(marks, 0, 9999) ? BAD : add(leaves, 6, marks % 10, marks / 10 % 10, marks / 100 % 10, marks / 1000);
    }

    int gap(int book, int marks) {
        return !isBook(book) || out(marks, 0, 14640) ? BAD
            : add(gaps, 6, marks % 11, marks / 11 % 11, marks / 121 % 11, marks / 1331);
    }

    int agrees(int leaf, int gap) {
        if (out(leaf, 0, leaves.size() - 1) || out(gap, 0, gaps.size() - 1)) {
            return BAD;
        }
        int[] l = leaves.get(leaf), g = gaps.get(gap);
        int alike = 0;
        for (int k = 0; k < 4; k++) {
            alike += l[k] == g[k] ? 1 : 0;
        }
        return g[0] != 10 && g[0] != l[0] ? 0 : alike;
    }

    int mostMarks;
    int[] bestGaps;

    int joined(int leaf) {
        if (out(leaf, -1, leaves.size() - 1)) {
            return BAD;
        }
        mostMarks = -1;
        join(0, 0, new int[leaves.size()]);
        return leaf == -1 ? mostMarks : bestGaps[leaf] == 6 ? NONE : bestGaps[leaf];
    }

    void join(int leaf, int marks, int[] to) {
        if (leaf == leaves.size()) {
            if (marks > mostMarks || marks == mostMarks && Arrays.compare(to, bestGaps) < 0) {
                mostMarks = marks;
                bestGaps = to.clone();
            }
            return;
        }
        to[leaf] = 6;
        join(leaf + 1, marks, to);
        for (int g = gaps.size() - 1; g >= 0; g--) {
            boolean free = agrees(leaf, g) > 0;
            for (int k = 0; k < leaf; k++) {
                free &= to[k] != g;
            }
            if (free) {
                to[leaf] = g;
                join(leaf + 1, marks + agrees(leaf, g), to);
            }
        }
    }

    int list(int paper, int least, int most) {
        return out(paper, 0, 3) || out(least, 0, 9999) || out(most, 0, 9999) ? BAD
            : more(add(lists, 20, paper, least, most, hour));
    }

    int were(int paper, int known, int what) {
        if (out(paper, 0, 3) || out(known, 0, hour) || out(what, 0, 3)) {
            return BAD;
        }
        int a = lists.stream().filter(l -> l[0] == paper && l[3] <= known).mapToInt(l -> l[1]).max().orElse(0);
        int b = lists.stream().filter(l -> l[0] == paper && l[3] <= known).mapToInt(l -> l[2]).min().orElse(9999);
        int now = (int) books.stream().filter(k -> k.paper == paper).count();
        return a > b ? STATE : new int[] {a, b, Math.max(0, a - now), Math.max(0, b - now)}[what];
    }

    int crate(int hour, int door) {
        return out(hour, 0, 999) || out(door, 0, 3) ? BAD : add(crates, 20, hour, door);
    }

    int chain(int door, int hours, int shelves) {
        int f = hours / 1000, t = hours % 1000, a = shelves / 100, b = shelves % 100;
        boolean bad = out(door, 0, 3) || hours < 0 || f > 999 || f >= t || shelves < 0 || a > 99 || a > b;
        return bad ? BAD : more(add(chains, 40, door, f, t, a, b));
    }

    int from(int crate) {
        if (out(crate, 0, crates.size() - 1)) {
            return BAD;
        }
        int[] c = crates.get(crate);
        boolean any = false;
        int a = 0, b = 99;
        for (int[] k : chains) {
            if (k[0] == c[1] && c[0] >= k[1] && c[0] < k[2]) {
                any = true;
                a = Math.max(a, k[3]);
                b = Math.min(b, k[4]);
            }
        }
        return !any || a > b ? NONE : 100 * a + b;
    }

    int kind(int coin, int readers) {
        return out(coin, 1, 999) || out(readers, 0, 999) ? BAD : add(kinds, 6, coin, readers);
    }

    int years(int n, int coin, int i) {
        if (out(n, 1, 4) || out(coin, 0, 9999)) {
            return BAD;
        }
        if (out(i, -2, kinds.size() - 1)) {
            return NONE;
        }
        int[] in = new int[kinds.size()], best = null;
        int readers = -1, spent = 0;
        int plans = (int) Math.round(Math.pow(n + 1, kinds.size()));
        for (int plan = plans - 1; plan >= 0; plan--) {
            int code = plan, has = 0, r = 0, s = 0;
            for (int k = 0; k < in.length; k++) {
                in[k] = code % (n + 1);
                code /= n + 1;
            }
            boolean can = true;
            for (int y = 0; y < n; y++) {
                has += coin;
                for (int k = 0; k < in.length; k++) {
                    if (in[k] == y) {
                        has -= kinds.get(k)[0];
                        s += kinds.get(k)[0];
                    }
                    r += in[k] <= y ? kinds.get(k)[1] : 0;
                }
                can &= has >= 0;
            }
            boolean like = r == readers && s == spent;
            if (can && (r > readers || r == readers && s < spent || like && Arrays.compare(in, best) < 0)) {
                readers = r;
                spent = s;
                best = in.clone();
            }
        }
        return i == -1 ? readers : i == -2 ? spent : best[i] == n ? NONE : best[i];
    }

    int count(int what) {
        if (out(what, 0, 14)) {
            return BAD;
        }
        return new int[] {hour, books.size(), texts.size(), tape.length(), rule, trials.size(), hands.size(),
            leaves.size(), gaps.size(), lists.size(), crates.size(), chains.size(), kinds.size(),
            roomOf(2, null), roomOf(3, null)}[what];
    }

    static int sizeOf(Object row) {
        return row instanceof byte[] b ? b.length : row instanceof short[] s ? s.length : ((int[]) row).length;
    }

    static int itemOf(Object row, int i) {
        return row instanceof byte[] b ? b[i] : row instanceof short[] s ? s[i] : ((int[]) row)[i];
    }

    static int sortOf(Object row) {
        return row instanceof byte[] ? 0 : row instanceof short[] ? 1 : 2;
    }

    int sheet(int sheet, int sort, int n) {
        if (out(sheet, 0, 3) || out(sort, -1, 2) || sort >= 0 && n > 40) {
            return BAD;
        }
        if (sort >= 0 && n < 0) {
            return -14;
        }
        sheets[sheet] = sort < 0 ? null : sort == 0 ? new byte[n] : sort == 1 ? new short[n] : new int[n];
        return 1;
    }

    int cell(int sheet, int i, int v) {
        if (out(sheet, 0, 3)) {
            return BAD;
        }
        Object row = sheets[sheet];
        if (row == null) {
            return -11;
        }
        if (out(i, 0, sizeOf(row) - 1)) {
            return -12;
        }
        if (row instanceof byte[] b) {
            b[i] = (byte) v;
        } else if (row instanceof short[] s) {
            s[i] = (short) v;
        } else {
            ((int[]) row)[i] = v;
        }
        return 1;
    }

    int copy(int sheet, int i, int other, int j, int n) {
        if (out(sheet, 0, 3) || out(other, 0, 3)) {
            return BAD;
        }
        try {
            System.arraycopy(sheets[sheet], i, sheets[other], j, n);
        } catch (NullPointerException e) {
            return -11;
        } catch (ArrayStoreException e) {
            return -13;
        } catch (IndexOutOfBoundsException e) {
            return -12;
        }
        return n;
    }

    int books(int sheet, int sort, int from, int n) {
        if (out(sheet, 0, 3) || out(sort, 0, 2) || out(n, 0, 20)) {
            return BAD;
        }
        Object row = sheets[sheet];
        if (row == null) {
            return -11;
        }
        if (sortOf(row) != sort) {
            return -13;
        }
        int came = 0;
        for (long at = from; at < from + 2L * n; at += 2) {
            if (at < 0 || at + 1 >= sizeOf(row)) {
                return -12;
            }
            came += book(itemOf(row, (int) at), itemOf(row, (int) at + 1)) >= 0 ? 1 : 0;
        }
        return came;
    }

    int taken(int book, int k) {
        if (out(k, 0, 5)) {
            return BAD;
        }
        return !isBook(book) ? -11 : books.get(book).under(k) ? books.get(book).size : -13;
    }
}
