import java.util.Random;

/** Random runs of 512 calls, each call held against the model. */
public final class ModelTest {
    private static final int[] EDGES = {Integer.MIN_VALUE, Integer.MIN_VALUE + 1, -1001, -100, -15, -3, -2, -1, 0, 1,
        2, 3, 4, 5, 6, 7, 8, 9, 10, 11, 12, 14, 15, 20, 21, 23, 24, 25, 30, 31, 32, 40, 41, 63, 64, 72, 96, 99, 100,
        101, 160, 168, 200, 255, 256, 300, 999, 1000, 3399, 4000, 9999, 10000, 14640, 14641, 999999, 1000000,
        Integer.MAX_VALUE - 1, Integer.MAX_VALUE};
    private static final String[] WORDS = {"mould", "ink", "paper", "worth", "age", "size", "first", "may", "value",
        "or", "and", "not", "(", ")", ";", "+", "-", "*", "<", "=", "0", "7", "1234", "99999", "moulds", "x", "!", "A"};

    private final Random random;
    private final MudLibrary x = new MudLibrary();
    private final Model m = new Model();
    private final int run;
    private final int slow;

    private ModelTest(int run) {
        this.run = run;
        random = new Random(run);
        slow = 1 + random.nextInt(4);
    }

    public static void main(String[] args) {
        for (int run = 0; run < 1500; run++) {
            ModelTest test = new ModelTest(run);
            for (int call = 0; call < 512; call++) {
                test.callSome();
                if (call % 16 == 0) {
                    test.lookAtAll();
                }
            }
            test.lookAtAll();
        }
        Check.end("ModelTest");
    }

    private int upTo(int n) {
        return random.nextInt(n);
    }

    /** Mostly one of least .. most, at times an edge of some other number. */
    private int some(int least, int most) {
        int way = upTo(40);
        if (way == 0) {
            return EDGES[upTo(EDGES.length)];
        }
        if (way == 1) {
            return upTo(2) == 0 ? least - 1 : most + 1;
        }
        return least + upTo(most - least + 1);
    }

    private void due(String call, long got, long want) {
        Check.due("run " + run + ": " + call, got, want);
    }

    private void callSome() {
        switch (upTo(20)) {
            case 0: case 1: hours(); break;
            case 2: case 3: case 4: books(); break;
            case 5: case 6: moves(); break;
            case 7: case 8: texts(); break;
            case 9: trials(); break;
            case 10: lots(); break;
            case 11: hands(); break;
            case 12: case 13: leaves(); break;
            case 14: lists(); break;
            case 15: case 16: crates(); break;
            case 17: kinds(); break;
            default: sheets();
        }
    }

    private void hours() {
        if (upTo(3) == 0) {
            int what = some(0, 3), v = what == 0 ? some(0, 40) : what == 3 ? some(0, 999999) : some(0, 600);
            due("set(" + what + ", " + v + ")", x.set(what, v), m.set(what, v));
        } else if (upTo(slow) == 0) {
            int n = upTo(4) == 0 ? some(1, 100) : some(1, 30);
            due("pass(" + n + ")", x.pass(n), m.pass(n));
        }
    }

    private int someBook() {
        return some(0, Math.max(0, m.books.size() - 1));
    }

    private int someLook() {
        return upTo(30) == 0 ? some(0, 3999) : upTo(4) * 1000 + upTo(4) * 100 + 1 + upTo(upTo(2) == 0 ? 30 : 99);
    }

    private void books() {
        int book = someBook();
        switch (upTo(6)) {
            case 0: case 1:
                if (upTo(slow) == 0) {
                    int look = someLook(), worth = some(0, 999);
                    due("book(" + look + ", " + worth + ")", x.book(look, worth), m.book(look, worth));
                }
                break;
            case 2:
                due("left(" + book + ")", x.left(book), m.left(book));
                break;
            case 3:
                int i = some(0, 24);
                due("next(" + i + ")", x.next(i), m.next(i));
                break;
            case 4:
                int k = some(0, 5);
                due("taken(" + book + ", " + k + ")", x.taken(book, k), m.taken(book, k));
                break;
            default:
                int of = upTo(3) == 0 ? -1 : book;
                due("lost(" + of + ")", x.lost(of), m.lost(of));
        }
    }

    private void moves() {
        int book = someBook();
        int state = upTo(2) == 0 ? new int[] {2, 3, 5}[upTo(3)] : some(0, 5);
        due("move(" + book + ", " + state + ")", x.move(book, state), m.move(book, state));
    }

    private void texts() {
        if (upTo(3) == 0) {
            int text = some(0, 5);
            due("force(" + text + ")", x.force(text), m.force(text));
            return;
        }
        if (upTo(3) == 0) {
            int book = someBook(), part = some(0, 2);
            due("says(" + book + ", " + part + ")", x.says(book, part), m.says(book, part));
            return;
        }
        if (upTo(8) == 0) {
            int n = some(1, 8);
            long bytes = random.nextLong();
            due("feed(" + n + ", " + bytes + ")", x.feed(n, bytes), m.feed(n, bytes));
        }
        feedAll(upTo(3) == 0 ? spoilt(someText()) : someText());
        due("text() of " + m.tape, x.text(), m.text());
    }

    private void feedAll(String text) {
        for (int at = 0; at < text.length(); at += 8) {
            int n = Math.min(8, text.length() - at);
            long bytes = n == 8 ? 0 : random.nextLong() << 8 * n;
            for (int k = 0; k < n; k++) {
                bytes |= (long) (text.charAt(at + k) & 255) << 8 * k;
            }
            due("feed(" + n + ", " + bytes + ")", x.feed(n, bytes), m.feed(n, bytes));
        }
    }

    private String blank() {
        return upTo(3) == 0 ? "\n" : upTo(5) == 0 ? "  " : " ";
    }

    private String someText() {
        StringBuilder text = new StringBuilder();
        for (String key : new String[] {"first", "may", "value"}) {
            text.append(key).append(blank());
            someE(text, 1 + upTo(6), 0);
            text.append(upTo(2) == 0 ? ";" : blank() + ";" + blank());
        }
        return text.toString();
    }

    /** An E of so many ones, with brackets, nots and minuses at will (so too many of them at times). */
    private void someE(StringBuilder text, int ones, int depth) {
        for (int k = 0; k < ones; k++) {
            if (k > 0) {
                String[] signs = {" or ", " and ", "<", "=", "+", "-", "*", "+", "*", "-"};
                text.append(signs[upTo(signs.length)]);
            }
            int before = upTo(12);
            if (before == 0) {
                text.append(" not ");
            }
            while (upTo(6) == 0) {
                text.append("-");
            }
            if (depth < 7 && upTo(5) == 0) {
                text.append("(");
                someE(text, 1 + upTo(2), depth + 1);
                text.append(")");
            } else {
                text.append(upTo(3) == 0 ? "" + upTo(upTo(2) == 0 ? 9 : 9999) : WORDS[upTo(6)]);
            }
        }
    }

    private String spoilt(String text) {
        int at = upTo(text.length());
        switch (upTo(5)) {
            case 0: return text.substring(0, at);
            case 1: return text.substring(0, at) + text.substring(Math.min(text.length(), at + 1 + upTo(3)));
            case 2: return text.substring(0, at) + " " + WORDS[upTo(WORDS.length)] + " " + text.substring(at);
            case 3: return text.substring(0, at) + (char) upTo(256) + text.substring(at);
            default: return text + WORDS[upTo(WORDS.length)];
        }
    }

    private void trials() {
        int ink = some(0, 3), paper = some(0, 3);
        if (upTo(2) == 0) {
            int ran = some(0, 1);
            due("trial(" + ink + ", " + paper + ", " + ran + ")", x.trial(ink, paper, ran), m.trial(ink, paper, ran));
        } else {
            int known = some(0, m.hour);
            String call = "barred(" + ink + ", " + paper + ", " + known + ")";
            due(call, x.barred(ink, paper, known), m.barred(ink, paper, known));
        }
    }

    private void lots() {
        int bits = 0;
        for (int k = upTo(upTo(8) == 0 ? 7 : 4); k > 0; k--) {
            bits |= 1 << upTo(Math.max(1, m.books.size()));
        }
        bits = upTo(30) == 0 ? some(0, 1 << 24) : bits;
        int n = some(1, 24), i = some(-1, 5);
        due("lots(" + bits + ", " + n + ", " + i + ")", x.lots(bits, n, i), m.lots(bits, n, i));
    }

    private void hands() {
        if (upTo(3) == 0) {
            int skill = some(0, 99), learns = some(0, 9);
            due("hand(" + skill + ", " + learns + ")", x.hand(skill, learns), m.hand(skill, learns));
        } else {
            int bits = some(0, Math.max(0, (1 << m.hands.size()) - 1));
            due("pace(" + bits + ")", x.pace(bits), m.pace(bits));
        }
    }

    private void leaves() {
        switch (upTo(5)) {
            case 0:
                int marks = upTo(2) == 0 ? some(0, 9999) : upTo(3) + 10 * upTo(3) + 100 * upTo(3);
                due("leaf(" + marks + ")", x.leaf(marks), m.leaf(marks));
                break;
            case 1:
                int first = upTo(2) == 0 ? 10 : upTo(3);
                int some = first + 11 * upTo(3) + 121 * (upTo(2) == 0 ? 10 : upTo(3)) + 1331 * upTo(3);
                int gap = upTo(3) == 0 ? some(0, 14640) : some, book = someBook();
                due("gap(" + book + ", " + gap + ")", x.gap(book, gap), m.gap(book, gap));
                break;
            case 2:
                int l = some(0, 5), g = some(0, 5);
                due("agrees(" + l + ", " + g + ")", x.agrees(l, g), m.agrees(l, g));
                break;
            default:
                int leaf = some(-1, 5);
                if (m.leaves.size() < 6 || m.gaps.size() < 6 || upTo(20) == 0) {
                    due("joined(" + leaf + ")", x.joined(leaf), m.joined(leaf));
                }
        }
    }

    private void lists() {
        int paper = some(0, 3);
        if (upTo(3) == 0) {
            int least = some(0, upTo(2) == 0 ? 9999 : 20), most = upTo(8) == 0 ? some(0, 9999) : some(10, 9999);
            String call = "list(" + paper + ", " + least + ", " + most + ")";
            due(call, x.list(paper, least, most), m.list(paper, least, most));
        } else {
            int known = some(0, m.hour), what = some(0, 3);
            String call = "were(" + paper + ", " + known + ", " + what + ")";
            due(call, x.were(paper, known, what), m.were(paper, known, what));
        }
    }

    private void crates() {
        switch (upTo(4)) {
            case 0:
                int hour = some(0, 999), door = some(0, 3);
                due("crate(" + hour + ", " + door + ")", x.crate(hour, door), m.crate(hour, door));
                break;
            case 1:
                int of = some(0, 3), f = some(0, 999), a = upTo(60), b = a + upTo(41);
                int hours = upTo(8) == 0 ? some(0, 999999) : 1000 * f + Math.min(999, f + upTo(999));
                int shelves = upTo(8) == 0 ? some(0, 9999) : 100 * a + Math.min(b, 99);
                String call = "chain(" + of + ", " + hours + ", " + shelves + ")";
                due(call, x.chain(of, hours, shelves), m.chain(of, hours, shelves));
                break;
            default:
                int crate = some(0, Math.max(0, m.crates.size() - 1));
                due("from(" + crate + ")", x.from(crate), m.from(crate));
        }
    }

    private void kinds() {
        if (upTo(4) == 0) {
            int few = upTo(2) == 0 ? 5 : 999, coin = some(1, few), readers = some(0, few);
            due("kind(" + coin + ", " + readers + ")", x.kind(coin, readers), m.kind(coin, readers));
        } else if (m.kinds.size() < 5 || upTo(12) == 0) {
            int n = some(1, 4), coin = upTo(3) == 0 ? some(0, 12) : some(0, 1200), i = some(-2, 6);
            due("years(" + n + ", " + coin + ", " + i + ")", x.years(n, coin, i), m.years(n, coin, i));
        }
    }

    private void sheets() {
        int sheet = some(0, 3), i = some(0, 39);
        switch (upTo(5)) {
            case 0:
                int sort = some(-1, 2), size = some(0, 40);
                due("sheet(" + sheet + ", " + sort + ", " + size + ")", x.sheet(sheet, sort, size),
                    m.sheet(sheet, sort, size));
                break;
            case 1: case 2:
                int v = upTo(3) == 0 ? random.nextInt() : upTo(4) == 0 ? someLook() : upTo(100);
                due("cell(" + sheet + ", " + i + ", " + v + ")", x.cell(sheet, i, v), m.cell(sheet, i, v));
                break;
            case 3:
                int other = some(0, 3), j = some(0, 20), n = some(0, 20);
                due("copy(" + sheet + ", " + i + ", " + other + ", " + j + ", " + n + ")",
                    x.copy(sheet, i, other, j, n), m.copy(sheet, i, other, j, n));
                break;
            default:
                int as = some(0, 2), at = some(0, 39), many = upTo(2) == 0 ? some(0, 3) : some(0, 20);
                if (upTo(slow) == 0) {
                    due("books(" + sheet + ", " + as + ", " + at + ", " + many + ")",
                        x.books(sheet, as, at, many), m.books(sheet, as, at, many));
                }
        }
    }

    private void lookAtAll() {
        for (int what = -1; what <= 15; what++) {
            due("count(" + what + ")", x.count(what), m.count(what));
        }
        for (int book = -1; book <= m.books.size(); book++) {
            for (int what = -1; what <= 12; what++) {
                due("bookTold(" + book + ", " + what + ")", x.bookTold(book, what), m.bookTold(book, what));
            }
        }
    }
}
