import java.util.ArrayList;
import java.util.List;

/**
 * "Refusals, the first that the call's words name; they change nothing": each refused call is made on one of two like
 * objects, and both must tell the same of all that can be asked then.
 */
public final class RefusalTest {
    private static final int NONE = -1, BAD = -2, STATE = -3, FULL = -4;
    private static final long NO = -4611686018427387904L;
    private static final int LOW = Integer.MIN_VALUE, HIGH = Integer.MAX_VALUE;

    private interface Call {
        long on(MudLibrary x);
    }

    private interface Maker {
        MudLibrary make();
    }

    private final Maker maker;
    private final List<Long> untouched;

    private RefusalTest(Maker maker) {
        this.maker = maker;
        untouched = told(maker.make());
    }

    public static void main(String[] args) {
        Check.isTrue("what is told can tell objects apart", !told(some()).equals(told(full())));
        RefusalTest some = new RefusalTest(RefusalTest::some);
        some.hoursAndBooks();
        some.texts();
        some.plans();
        some.tellings();
        some.sheets();
        some.asked();
        RefusalTest full = new RefusalTest(RefusalTest::full);
        full.all();
        Check.end("RefusalTest");
    }

    /** An object with some of everything, at HOUR 130: BOOKS of all STATES, a RULE of its own, bytes on THE TAPE. */
    private static MudLibrary some() {
        MudLibrary x = new MudLibrary();
        for (int book = 0; book < 7; book++) {
            x.book(1000 * (book % 4) + 100 * (book % 2) + 10 + book, 100 * book);
        }
        x.set(3, 500);
        x.trial(1, 1, 1);
        x.hand(50, 3);
        x.list(1, 5, 10);
        x.list(2, 9, 8);
        x.move(0, 3);
        x.move(2, 2);
        x.pass(100);
        x.move(3, 3);
        x.move(3, 5);
        x.move(4, 3);
        x.book(2345, 999);
        x.pass(30);
        x.set(0, 25);
        x.set(1, 12);
        x.set(2, 60);
        x.trial(0, 3, 1);
        x.hand(20, 9);
        x.leaf(1234);
        x.leaf(4444);
        x.gap(1, 10 + 11 * 3 + 121 * 2 + 1331);
        x.gap(2, 4 + 11 * 4 + 121 * 10 + 1331 * 3);
        x.crate(7, 2);
        x.crate(9, 2);
        x.chain(2, 5009, 1050);
        x.kind(30, 4);
        x.kind(20, 3);
        Check.rule(x, "size*mould", "ink=0", "worth-50");
        Check.feed(x, "first ink;may 2;");
        sheetsOf(x);
        return x;
    }

    /** SHEETS 0 .. 2 of all sorts; 3 is missing. */
    private static void sheetsOf(MudLibrary x) {
        for (int sheet = 0; sheet < 3; sheet++) {
            x.sheet(sheet, sheet, 5);
            for (int i = 0; i < 5; i++) {
                x.cell(sheet, i, 11 + 10 * sheet + i);
            }
        }
    }

    /** An object that has room for no more of anything, at HOUR 999. */
    private static MudLibrary full() {
        MudLibrary x = new MudLibrary();
        for (int k = 0; k < 24; k++) {
            x.book(2000 + k + 1, k);
        }
        x.move(0, 2);
        x.set(1, 1);
        x.set(2, 0);
        for (int k = 0; k < 5; k++) {
            Check.text(x, "first " + k + ";may 1;value size;");
        }
        Check.feed(x, "first ink;may 2;value age;" + " ".repeat(134));
        for (int k = 0; k < 30; k++) {
            x.trial(k % 4, k / 8, k % 3 % 2);
        }
        for (int k = 0; k < 6; k++) {
            x.hand(k, k);
            x.leaf(k);
            x.gap(k, k);
            x.kind(1 + k, k);
        }
        for (int k = 0; k < 20; k++) {
            x.list(k % 4, k, 900 - k);
            x.crate(k, 1);
        }
        for (int k = 0; k < 40; k++) {
            x.chain(1, k + 1, 50 + k % 9);
        }
        Check.passAll(x, 999);
        return x;
    }

    /** All that can be asked of an object: at the end also what can be told by changing it alone. */
    private static List<Long> told(MudLibrary x) {
        List<Long> told = new ArrayList<>();
        for (int what = 0; what <= 14; what++) {
            told.add((long) x.count(what));
        }
        for (int book : new int[] {0, 1, 2, 3, 4, 7, 23}) {
            for (int what = 0; what <= 7; what++) {
                told.add((long) x.bookTold(book, what));
            }
            told.add(x.says(book, 0) + 31 * x.says(book, 1) + 961 * x.says(book, 2));
        }
        for (int k = 0; k < 6; k++) {
            told.add((long) x.pace(1 << k));
            told.add((long) x.agrees(k, k));
            told.add((long) x.joined(k));
            told.add((long) x.years(2, 35, k - 2));
            told.add((long) x.from(k));
            told.add((long) x.next(k));
        }
        for (int k = 0; k < 4; k++) {
            told.add((long) x.barred(k, k, x.count(0)));
            told.add((long) x.barred(k & 1, k, 100));
            told.add((long) x.were(k, x.count(0), 0));
            told.add((long) x.were(k, 0, 1));
        }
        told.add(x.lost(-1));
        tellByChange(x, told);
        return told;
    }

    private static void tellByChange(MudLibrary x, List<Long> told) {
        for (int sheet = 0; sheet < 4; sheet++) {
            for (int sort = 0; sort <= 2; sort++) {
                told.add((long) x.books(sheet, sort, 0, 2));
                told.add((long) x.books(sheet, sort, 3, 1));
            }
            told.add((long) x.cell(sheet, 4, 1));
            told.add((long) x.cell(sheet, 5, 1));
        }
        for (int book = 8; book < 18; book++) {
            told.add((long) x.bookTold(book, 3) * 1000 + x.bookTold(book, 4));
        }
        Check.feed(x, "value 9;");
        told.add((long) x.text());
        x.force(x.count(2) - 1);
        told.add(x.says(3, 0) + 31 * x.says(3, 1) + 961 * x.says(3, 2));
        for (int what = 0; what <= 3; what++) {
            told.add(x.set(what, 1));
        }
        told.add((long) x.trial(0, 0, 0));
    }

    private void refused(String call, long due, Call c) {
        MudLibrary x = maker.make();
        Check.due(call, c.on(x), due);
        List<Long> told = told(x);
        for (int k = 0; k < untouched.size(); k++) {
            Check.due(call + " changes nothing; what is told as number " + k, told.get(k), untouched.get(k));
        }
    }

    private void hoursAndBooks() {
        Check.promise(2);
        int[] most = {40, 9999, 9999, 999999};
        for (int what = 0; what <= 3; what++) {
            int of = what;
            refused("set(" + what + ", most + 1)", NO, x -> x.set(of, most[of] + 1));
            refused("set(" + what + ", -1)", NO, x -> x.set(of, -1));
        }
        refused("set(4, 1)", NO, x -> x.set(4, 1));
        refused("set(-1, 1)", NO, x -> x.set(-1, 1));
        Check.promise(3);
        refused("pass(0)", BAD, x -> x.pass(0));
        refused("pass(101)", BAD, x -> x.pass(101));
        refused("pass(LOW)", BAD, x -> x.pass(LOW));
        Check.promise(4);
        refused("book(0, 5)", BAD, x -> x.book(0, 5));
        refused("book(4001, 5)", BAD, x -> x.book(4001, 5));
        refused("book(401, 5)", BAD, x -> x.book(401, 5));
        refused("book(-1, 5)", BAD, x -> x.book(-1, 5));
        refused("book(1, 1000)", BAD, x -> x.book(1, 1000));
        refused("book(1, -1)", BAD, x -> x.book(1, -1));
        Check.promise(6);
        refused("move(8, 3), no such BOOK", BAD, x -> x.move(8, 3));
        refused("move(-1, 3), no such BOOK", BAD, x -> x.move(-1, 3));
        refused("move(1, 6), no such STATE", BAD, x -> x.move(1, 6));
        refused("move(1, -1), no such STATE", BAD, x -> x.move(1, -1));
        refused("move(1, 1), not from a BLOCK", STATE, x -> x.move(1, 1));
        refused("move(1, 5), not from a BLOCK", STATE, x -> x.move(1, 5));
        refused("move(1, 0), never", STATE, x -> x.move(1, 0));
        refused("move(3, 5), WASHED already", STATE, x -> x.move(3, 5));
        refused("move(2, 5), not from a FROZEN one", STATE, x -> x.move(2, 5));
        refused("move(0, 3), DONE", STATE, x -> x.move(0, 3));
        refused("move(4, 5) in full BARNS", FULL, x -> x.set(2, 53) == 60 ? unset(x.move(4, 5), x, 2, 60) : 0);
        refused("move(1, 2), no ROOM", FULL, x -> x.move(1, 2));
        refused("move(7, 3), no ROOM", FULL, x -> x.move(7, 3));
        refused("move(5, 3), no ROOM", FULL, x -> x.move(5, 3));
    }

    /** The answer of a call, when what was told otherwise for it is as it was. */
    private static long unset(long answer, MudLibrary x, int what, int v) {
        x.set(what, v);
        return answer;
    }

    private void texts() {
        Check.promise(10);
        for (int n : new int[] {0, 9, -1, LOW, HIGH}) {
            refused("feed(" + n + ", ..)", BAD, x -> x.feed(n, 0x2020202020202020L));
        }
        Check.promise(12);
        for (int text : new int[] {-1, 2, 6, LOW, HIGH}) {
            refused("force(" + text + ")", BAD, x -> x.force(text));
        }
        Check.promise(14);
        refused("trial(4, 0, 1)", BAD, x -> x.trial(4, 0, 1));
        refused("trial(-1, 0, 1)", BAD, x -> x.trial(-1, 0, 1));
        refused("trial(0, 4, 1)", BAD, x -> x.trial(0, 4, 1));
        refused("trial(0, -1, 1)", BAD, x -> x.trial(0, -1, 1));
        refused("trial(0, 0, 2)", BAD, x -> x.trial(0, 0, 2));
        refused("trial(0, 0, -1)", BAD, x -> x.trial(0, 0, -1));
    }

    private void plans() {
        Check.promise(16);
        refused("lots(256, 1, 0)", BAD, x -> x.lots(256, 1, 0));
        refused("lots(63, 1, 0)", BAD, x -> x.lots(63, 1, 0));
        refused("lots(1, 0, 0)", BAD, x -> x.lots(1, 0, 0));
        refused("lots(1, 25, 0)", BAD, x -> x.lots(1, 25, 0));
        refused("lots(1, 1, 1)", NONE, x -> x.lots(1, 1, 1));
        refused("lots(1, 1, -2)", NONE, x -> x.lots(1, 1, -2));
        Check.promise(17);
        refused("hand(100, 0)", BAD, x -> x.hand(100, 0));
        refused("hand(-1, 0)", BAD, x -> x.hand(-1, 0));
        refused("hand(0, 10)", BAD, x -> x.hand(0, 10));
        refused("hand(0, -1)", BAD, x -> x.hand(0, -1));
        Check.promise(19);
        refused("leaf(10000)", BAD, x -> x.leaf(10000));
        refused("leaf(-1)", BAD, x -> x.leaf(-1));
        Check.promise(20);
        refused("gap(8, 0)", BAD, x -> x.gap(8, 0));
        refused("gap(-1, 0)", BAD, x -> x.gap(-1, 0));
        refused("gap(0, 14641)", BAD, x -> x.gap(0, 14641));
        refused("gap(0, -1)", BAD, x -> x.gap(0, -1));
    }

    private void tellings() {
        Check.promise(23);
        refused("list(4, 0, 0)", BAD, x -> x.list(4, 0, 0));
        refused("list(-1, 0, 0)", BAD, x -> x.list(-1, 0, 0));
        refused("list(0, 10000, 0)", BAD, x -> x.list(0, 10000, 0));
        refused("list(0, -1, 0)", BAD, x -> x.list(0, -1, 0));
        refused("list(0, 0, 10000)", BAD, x -> x.list(0, 0, 10000));
        refused("list(0, 0, -1)", BAD, x -> x.list(0, 0, -1));
        Check.promise(24);
        refused("were(2, 130, 0), not both", STATE, x -> x.were(2, 130, 0));
        refused("were(2, 131, 0), HOUR ahead of not both", BAD, x -> x.were(2, 131, 0));
        refused("were(2, 130, 4), what ahead of not both", BAD, x -> x.were(2, 130, 4));
        Check.promise(25);
        refused("crate(1000, 0)", BAD, x -> x.crate(1000, 0));
        refused("crate(-1, 0)", BAD, x -> x.crate(-1, 0));
        refused("crate(0, 4)", BAD, x -> x.crate(0, 4));
        refused("crate(0, -1)", BAD, x -> x.crate(0, -1));
        Check.promise(26);
        refused("chain(4, 9, 99)", BAD, x -> x.chain(4, 9, 99));
        refused("chain(-1, 9, 99)", BAD, x -> x.chain(-1, 9, 99));
        refused("chain(2, 7007, 99)", BAD, x -> x.chain(2, 7007, 99));
        refused("chain(2, 1000000, 99)", BAD, x -> x.chain(2, 1000000, 99));
        refused("chain(2, -1, 99)", BAD, x -> x.chain(2, -1, 99));
        refused("chain(2, 9, 4030)", BAD, x -> x.chain(2, 9, 4030));
        refused("chain(2, 9, 10000)", BAD, x -> x.chain(2, 9, 10000));
        refused("chain(2, 9, -1)", BAD, x -> x.chain(2, 9, -1));
        Check.promise(28);
        refused("kind(0, 9)", BAD, x -> x.kind(0, 9));
        refused("kind(1000, 9)", BAD, x -> x.kind(1000, 9));
        refused("kind(1, -1)", BAD, x -> x.kind(1, -1));
        refused("kind(1, 1000)", BAD, x -> x.kind(1, 1000));
    }

    private void sheets() {
        Check.promise(31);
        refused("sheet(4, 0, 1)", BAD, x -> x.sheet(4, 0, 1));
        refused("sheet(-1, 0, 1)", BAD, x -> x.sheet(-1, 0, 1));
        for (int sheet = 0; sheet <= 3; sheet++) {
            int of = sheet;
            refused("sheet(" + of + ", 3, 1)", BAD, x -> x.sheet(of, 3, 1));
            refused("sheet(" + of + ", -2, 1)", BAD, x -> x.sheet(of, -2, 1));
            refused("sheet(" + of + ", 0, 41)", BAD, x -> x.sheet(of, 0, 41));
            refused("sheet(" + of + ", 0, -1)", -14, x -> x.sheet(of, 0, -1));
            Check.promise(32);
            refused("cell(" + of + ", -1, 1)", of == 3 ? -11 : -12, x -> x.cell(of, -1, 1));
            refused("cell(" + of + ", 5, 1)", of == 3 ? -11 : -12, x -> x.cell(of, 5, 1));
            Check.promise(33);
            refused("copy(" + of + ", 0, 3, 0, 1)", -11, x -> x.copy(of, 0, 3, 0, 1));
            refused("copy(3, 0, " + of + ", 0, 1)", -11, x -> x.copy(3, 0, of, 0, 1));
            refused("copy(0, 0, " + of + ", 1, 5)", of == 0 ? -12 : of == 3 ? -11 : -13, x -> x.copy(0, 0, of, 1, 5));
            Check.promise(34);
            refused("books(" + of + ", " + of + ", 4, 1)", of == 3 ? BAD : -12, x -> x.books(of, of, 4, 1));
            refused("books(" + of + ", 0, 0, 21)", BAD, x -> x.books(of, 0, 0, 21));
            refused("books(" + of + ", 0, 0, -1)", BAD, x -> x.books(of, 0, 0, -1));
            refused("books(" + of + ", (sheet + 1) % 3, 0, 1)", of == 3 ? -11 : -13, x -> x.books(of, (of + 1) % 3, 0, 1));
        }
        Check.promise(32);
        refused("cell(4, 0, 1)", BAD, x -> x.cell(4, 0, 1));
        refused("cell(-1, 0, 1)", BAD, x -> x.cell(-1, 0, 1));
        Check.promise(33);
        refused("copy(4, 0, 0, 0, 1)", BAD, x -> x.copy(4, 0, 0, 0, 1));
        refused("copy(0, 0, 4, 0, 1)", BAD, x -> x.copy(0, 0, 4, 0, 1));
        refused("copy(0, 0, 0, 1, -1)", -12, x -> x.copy(0, 0, 0, 1, -1));
        refused("copy(0, 1, 0, 0, 5)", -12, x -> x.copy(0, 1, 0, 0, 5));
        refused("copy(0, 0, 0, 1, 0), none", 0, x -> x.copy(0, 0, 0, 1, 0));
        Check.promise(34);
        refused("books(4, 0, 0, 1)", BAD, x -> x.books(4, 0, 0, 1));
        refused("books(0, 0, 0, 0), none", 0, x -> x.books(0, 0, 0, 0));
    }

    /** What is just asked changes nothing either, answered or refused. */
    private void asked() {
        Check.promise(5);
        for (int book : new int[] {-1, 0, 7, 8}) {
            refused("bookTold(" + book + ", 12)", BAD, x -> x.bookTold(book, 12));
            refused("bookTold(" + book + ", 1)", book < 0 || book > 7 ? BAD : book == 0 ? 0 : 2, x -> x.bookTold(book, 1));
            refused("left(" + book + ")", book < 0 || book > 7 ? BAD : book == 0 ? NONE : 3, x -> x.left(book));
            refused("taken(" + book + ", 6)", BAD, x -> x.taken(book, 6));
            refused("taken(" + book + ", 3)", book < 0 || book > 7 ? -11 : -13, x -> x.taken(book, 3));
            refused("says(" + book + ", 3)", NO, x -> x.says(book, 3));
            refused("gap of " + book, BAD, x -> x.gap(book, -1));
        }
        refused("next(7)", NONE, x -> x.next(7));
        refused("next(-1)", NONE, x -> x.next(-1));
        refused("lost(8)", NO, x -> x.lost(8));
        refused("lost(-2)", NO, x -> x.lost(-2));
        refused("barred(1, 1, 131)", BAD, x -> x.barred(1, 1, 131));
        refused("barred(1, 1, 130)", 1, x -> x.barred(1, 1, 130));
        refused("pace(4)", BAD, x -> x.pace(4));
        refused("pace(3)", 70, x -> x.pace(3));
        refused("agrees(2, 0)", BAD, x -> x.agrees(2, 0));
        refused("agrees(0, 2)", BAD, x -> x.agrees(0, 2));
        refused("joined(2)", BAD, x -> x.joined(2));
        refused("joined(-2)", BAD, x -> x.joined(-2));
        refused("joined(-1)", 5, x -> x.joined(-1));
        refused("from(2)", BAD, x -> x.from(2));
        refused("from(1)", NONE, x -> x.from(1));
        refused("from(0)", 1050, x -> x.from(0));
        refused("years(5, 1, 0)", BAD, x -> x.years(5, 1, 0));
        refused("years(1, 10000, 0)", BAD, x -> x.years(1, 10000, 0));
        refused("years(4, 10, 2)", NONE, x -> x.years(4, 10, 2));
        refused("years(4, 10, 0)", NONE, x -> x.years(4, 10, 0));
        refused("years(4, 10, 1)", 1, x -> x.years(4, 10, 1));
        refused("count(15)", BAD, x -> x.count(15));
        refused("lots(29, 24, 3), which changes nothing", 4, x -> x.lots(0b11101, 24, 3));
        refused("lots(31, 24, -1), which changes nothing", 1, x -> Math.min(1, x.lots(0b11111, 24, -1) + 1));
    }

    private void all() {
        Check.promise(3);
        refused("pass(1)", FULL, x -> x.pass(1));
        refused("pass(100)", FULL, x -> x.pass(100));
        Check.promise(4);
        refused("book(1, 1)", FULL, x -> x.book(1, 1));
        Check.promise(6);
        refused("move(1, 2)", FULL, x -> x.move(1, 2));
        refused("move(1, 3)", FULL, x -> x.move(1, 3));
        refused("move(0, 3)", FULL, x -> x.move(0, 3));
        Check.promise(10);
        for (int n = 1; n <= 8; n++) {
            int of = n;
            refused("feed(" + n + ", ..)", FULL, x -> x.feed(of, -1));
        }
        Check.promise(11);
        refused("text(): THE TAPE stays", FULL, MudLibrary::text);
        Check.promise(14);
        refused("trial(0, 0, 1)", FULL, x -> x.trial(0, 0, 1));
        Check.promise(16);
        refused("lots(1, 1, 0)", FULL, x -> x.lots(1, 1, 0));
        Check.promise(17);
        refused("hand(1, 1)", FULL, x -> x.hand(1, 1));
        Check.promise(19);
        refused("leaf(1)", FULL, x -> x.leaf(1));
        Check.promise(20);
        refused("gap(1, 1)", FULL, x -> x.gap(1, 1));
        Check.promise(23);
        refused("list(1, 500, 500)", FULL, x -> x.list(1, 500, 500));
        Check.promise(25);
        refused("crate(1, 1)", FULL, x -> x.crate(1, 1));
        Check.promise(26);
        refused("chain(1, 999, 9999)", FULL, x -> x.chain(1, 999, 9999));
        Check.promise(28);
        refused("kind(1, 999)", FULL, x -> x.kind(1, 999));
    }
}
