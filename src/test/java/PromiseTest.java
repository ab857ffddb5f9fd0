/** For each promise: what is ordinary, the edges that the document names, and what is refused, in order. */
public final class PromiseTest {
    private static final int NONE = -1, BAD = -2, STATE = -3, FULL = -4;
    private static final long NO = -4611686018427387904L;
    private static final int LOW = Integer.MIN_VALUE, HIGH = Integer.MAX_VALUE;

    private PromiseTest() {
    }

    public static void main(String[] args) {
        hoursAndBooks();
        states();
        textsAndTrials();
        lotsAndHands();
        leaves();
        listsCratesYears();
        host();
        Check.end("PromiseTest");
    }

    private static void due(String call, long got, long want) {
        Check.due(call, got, want);
    }

    private static MudLibrary withBooks(int number, int look) {
        return Check.withBooks(number, look);
    }

    private static void passAll(MudLibrary x, int hours) {
        Check.passAll(x, hours);
    }

    private static void hoursAndBooks() {
        promise1();
        promise2();
        promise3();
        promise4();
        promise5();
    }

    private static void promise1() {
        Check.promise(1);
        MudLibrary x = new MudLibrary();
        for (int what = 0; what <= 14; what++) {
            due("count(" + what + ") of a new one", x.count(what), what == 2 ? 1 : 0);
        }
        due("COIN at first", x.set(3, 0), 0);
        due("HEAT at first", x.set(0, 10), 10);
        due("ROOM of FREEZERS at first", x.set(1, 200), 200);
        due("ROOM of BARNS at first", x.set(2, 300), 300);
        due("constants", MudLibrary.NONE == NONE && MudLibrary.BAD == BAD && MudLibrary.STATE == STATE
            && MudLibrary.FULL == FULL && MudLibrary.NO == NO ? 1 : 0, 1);
        MudLibrary y = new MudLibrary();
        x.book(1, 1);
        due("another one's BOOKS", y.count(1), 0);
    }

    private static void promise2() {
        Check.promise(2);
        MudLibrary x = new MudLibrary();
        int[] most = {40, 9999, 9999, 999999};
        for (int what = 0; what < 4; what++) {
            x.set(what, 7);
            due("set to the most", x.set(what, most[what]), 7);
            due("set above the most", x.set(what, most[what] + 1), NO);
            due("set below 0", x.set(what, -1), NO);
            due("set to 0", x.set(what, 0), most[what]);
            due("set again", x.set(what, 0), 0);
        }
        due("set(-1, 1)", x.set(-1, 1), NO);
        due("set(4, 1)", x.set(4, 1), NO);
        due("set(LOW, HIGH)", x.set(LOW, HIGH), NO);
        x = withBooks(2, 40);
        x.move(0, 2);
        x.pass(10);
        due("COIN below 0", x.set(3, 5), -30);
    }

    private static void promise3() {
        Check.promise(3);
        MudLibrary x = new MudLibrary();
        due("pass(0)", x.pass(0), BAD);
        due("pass(101)", x.pass(101), BAD);
        due("pass(-1)", x.pass(-1), BAD);
        due("pass(HIGH)", x.pass(HIGH), BAD);
        due("pass(1)", x.pass(1), 1);
        due("pass(100)", x.pass(100), 101);
        passAll(x, 800);
        due("pass(99) beyond", x.pass(99), FULL);
        due("HOUR then", x.count(0), 901);
        due("pass(98) to the last HOUR", x.pass(98), 999);
        due("pass(1) at the last HOUR", x.pass(1), FULL);
        due("pass(0) at the last HOUR", x.pass(0), BAD);
    }

    private static void promise4() {
        Check.promise(4);
        MudLibrary x = new MudLibrary();
        due("book(3399, 999)", x.book(3399, 999), 0);
        due("book(1, 0)", x.book(1, 0), 1);
        int[] bad = {0, 100, 400, 401, 1000, 901, 3400, 3999, 4001, 4101, -1, -99, LOW, HIGH};
        for (int look : bad) {
            due("book(" + look + ", 5)", x.book(look, 5), BAD);
        }
        due("WORTH 1000", x.book(1, 1000), BAD);
        due("WORTH -1", x.book(1, -1), BAD);
        due("BOOKS", x.count(1), 2);
        x.pass(5);
        due("book(2001, 1)", x.book(2001, 1), 2);
        due("PAPER of 2001", x.bookTold(2, 1), 2);
        due("INK of 2001", x.bookTold(2, 2), 0);
        due("book(3301, 1)", x.book(3301, 1), 3);
        due("PAPER of 3301", x.bookTold(3, 1), 3);
        due("INK of 3301", x.bookTold(3, 2), 3);
        due("SIZE of 3301", x.bookTold(3, 3), 1);
        for (int k = 4; k < 24; k++) {
            due("BOOK " + k, x.book(2145, 321), k);
        }
        due("a BOOK too many", x.book(2145, 321), FULL);
        due("a bad BOOK too many", x.book(0, 321), BAD);
        int[] told = {1, 2, 1, 45, 321, 0, 0, 5, 0, 45, 3, 3};
        for (int what = 0; what < told.length; what++) {
            due("bookTold(23, " + what + ")", x.bookTold(23, what), told[what]);
        }
    }

    private static void promise5() {
        Check.promise(5);
        MudLibrary x = withBooks(6, 45);
        x.set(0, 27);
        x.move(1, 2);
        x.move(2, 3);
        x.move(3, 3);
        x.move(3, 5);
        x.pass(47);
        due("WET after 47", x.bookTold(0, 0), 1);
        x.pass(1);
        int[][] told = {
            {4, 0, 0, 45, 10, 192, 72, 48, 0, 23, 13, 7},
            {2, 0, 0, 45, 10, 0, 0, 0, 3, 45, 0, 0},
            {3, 0, 0, 45, 10, 48, 0, 0, 2, 90, 1, 1},
            {5, 0, 0, 45, 10, 0, 0, 0, 5, 90, 0, 1}};
        for (int book = 0; book < told.length; book++) {
            for (int what = 0; what < 12; what++) {
                due("bookTold(" + book + ", " + what + ")", x.bookTold(book, what), told[book][what]);
            }
        }
        x.pass(24);
        due("DRYING for 72", x.bookTold(2, 0), 0);
        due("SINCE", x.bookTold(2, 7), 72);
        due("DONE: COST", x.bookTold(2, 8), 0);
        due("DONE: ROOM", x.bookTold(2, 9), 0);
        due("DONE: MOULD", x.bookTold(2, 10), 0);
        due("DONE: HARM", x.bookTold(2, 11), 0);
        due("bookTold(6, 0)", x.bookTold(6, 0), BAD);
        due("bookTold(-1, 0)", x.bookTold(-1, 0), BAD);
        due("bookTold(0, -1)", x.bookTold(0, -1), BAD);
        due("bookTold(0, 12)", x.bookTold(0, 12), BAD);
        due("bookTold(HIGH, LOW)", x.bookTold(HIGH, LOW), BAD);
    }

    private static void states() {
        hoursThatGoBy();
        promise6();
        roomsOfPromise6();
        promise7();
        promise8();
        promise9();
    }

    private static void hoursThatGoBy() {
        Check.promise(3);
        MudLibrary x = withBooks(1, 10);
        passAll(x, 48);
        due("MOULD when it becomes a BLOCK", x.bookTold(0, 5), 144);
        due("HARM when it becomes a BLOCK", x.bookTold(0, 6), 45);
        x.pass(1);
        due("MOULD of a BLOCK", x.bookTold(0, 5), 155);
        due("HARM of a BLOCK", x.bookTold(0, 6), 52);
        passAll(x, 300);
        due("MOULD at most", x.bookTold(0, 5), 1000);
        due("HARM at most", x.bookTold(0, 6), 1000);
        x = withBooks(2, 10);
        x.pass(33);
        x.move(0, 3);
        due("COIN ahead", x.set(3, 10), 0);
        x.pass(1);
        due("MOULD 100 of a DRYING one", x.bookTold(0, 5), 100);
        due("HARM in that HOUR", x.bookTold(0, 6), 1);
        x.move(0, 5);
        x.pass(95);
        due("WASHED for 95", x.bookTold(0, 0), 5);
        x.pass(1);
        due("WASHED for 96", x.bookTold(0, 0), 0);
        due("SINCE", x.bookTold(0, 7), 130);
        due("MOULD of a WASHED one", x.bookTold(0, 5), 100);
        due("HARM of a WASHED one", x.bookTold(0, 6), 97);
        due("COIN behind", x.set(3, 0), 10 - 2 - 96 * 5);
        x = withBooks(1, 10);
        x.move(0, 2);
        x.pass(100);
        x.move(0, 1);
        x.pass(47);
        due("WET since it thawed", x.bookTold(0, 0), 1);
        x.pass(1);
        due("BLOCK since then", x.bookTold(0, 7), 148);
        x = withBooks(1, 10);
        x.pass(47);
        x.move(0, 3);
        passAll(x, 200);
        due("DRYING becomes DONE in a long pass", x.bookTold(0, 7), 47 + 72);
        due("its MOULD", x.bookTold(0, 5), 141 + 72);
        due("its HARM", x.bookTold(0, 6), 3 * 14 + 72);
    }

    /** A BOOK of a STATE, in an object of its own. */
    private static MudLibrary in(int state) {
        MudLibrary x = withBooks(1, 10);
        if (state == 0 || state == 3 || state == 5) {
            x.move(0, 3);
        }
        if (state == 0) {
            x.pass(72);
        } else if (state == 4) {
            x.pass(48);
        } else if (state == 2 || state == 5) {
            x.move(0, state);
        }
        return x;
    }

    private static void promise6() {
        Check.promise(6);
        boolean[][] leads = new boolean[6][6];
        leads[1][2] = leads[4][2] = leads[1][3] = leads[2][3] = leads[4][3] = leads[3][5] = leads[2][1] = true;
        for (int before = 0; before < 6; before++) {
            for (int state = 0; state < 6; state++) {
                MudLibrary x = in(before);
                String call = "move(0, " + state + ") from " + before;
                due(call, x.move(0, state), leads[before][state] ? before : STATE);
                due("STATE behind " + call, x.bookTold(0, 0), leads[before][state] ? state : before);
            }
        }
        MudLibrary x = withBooks(1, 210);
        x.pass(7);
        x.move(0, 3);
        due("SINCE", x.bookTold(0, 7), 7);
        due("INK 2 by THE RULE", x.move(0, 5), STATE);
        due("move(1, 9)", x.move(1, 3), BAD);
        due("move(0, 6)", x.move(0, 6), BAD);
        due("move(0, -1)", x.move(0, -1), BAD);
        due("move(-1, 3)", x.move(-1, 3), BAD);
        due("move(HIGH, LOW)", x.move(HIGH, LOW), BAD);
        Check.text(x, "first 1;may ink=2;value 1;");
        x.force(1);
        x.trial(2, 1, 1);
        x.trial(1, 0, 1);
        due("INK 2 by another RULE, others BARRED", x.move(0, 5), 3);
        x = withBooks(1, 110);
        x.move(0, 3);
        x.trial(1, 0, 1);
        due("BARRED", x.move(0, 5), STATE);
        x.set(2, 0);
        due("BARRED and no ROOM", x.move(0, 5), STATE);
        x.trial(1, 0, 0);
        due("no ROOM", x.move(0, 5), FULL);
        x.set(2, 20);
        due("not BARRED", x.move(0, 5), 3);
    }

    private static void roomsOfPromise6() {
        MudLibrary x = withBooks(5, 50);
        for (int k = 0; k < 4; k++) {
            due("FREEZERS", x.move(k, 2), 1);
        }
        due("FREEZERS are full", x.move(4, 2), FULL);
        due("count(13)", x.count(13), 200);
        due("thaws", x.move(0, 1), 2);
        due("FREEZERS have room again", x.move(4, 2), 1);
        due("BARNS 1", x.move(1, 3), 2);
        due("BARNS 2", x.move(2, 3), 2);
        due("BARNS 3", x.move(3, 3), 2);
        due("BARNS are full", x.move(4, 3), FULL);
        due("count(14)", x.count(14), 300);
        due("WASHED in full BARNS", x.move(1, 5), 3);
        due("count(14) then", x.count(14), 300);
        x.set(2, 299);
        due("WASHED when BARNS hold less", x.move(2, 5), FULL);
        due("it stays", x.bookTold(2, 0), 3);
        x = withBooks(2, 21);
        x.pass(48);
        x.set(1, 20);
        due("a BLOCK is frozen by its SIZE", x.move(0, 2), FULL);
        x.set(1, 21);
        due("a BLOCK is frozen", x.move(0, 2), 4);
        x.set(2, 41);
        due("twice SIZE", x.move(1, 3), FULL);
        x.set(2, 42);
        due("twice SIZE has room", x.move(1, 3), 4);
    }

    private static void promise7() {
        Check.promise(7);
        MudLibrary x = withBooks(3, 10);
        due("WET", x.left(0), 34);
        x.set(0, 9);
        due("WET by less HEAT", x.left(0), 50);
        x.set(0, 40);
        due("WET by most HEAT", x.left(0), 17);
        x.set(0, 10);
        x.move(1, 3);
        due("DRYING", x.left(1), 100);
        x.move(2, 2);
        due("FROZEN", x.left(2), NONE);
        x.pass(33);
        due("99", x.left(0), 1);
        x.pass(1);
        due("102", x.left(0), 0);
        x.move(0, 2);
        due("FROZEN and 102", x.left(0), 0);
        x = withBooks(1, 10);
        x.set(0, 0);
        x.pass(48);
        due("a BLOCK of 96", x.left(0), 1);
        x.move(0, 3);
        due("DRYING of 96", x.left(0), 4);
        x.move(0, 5);
        due("WASHED of 96", x.left(0), NONE);
        x.pass(96);
        due("DONE of 96", x.left(0), NONE);
        due("left(1)", x.left(1), BAD);
        due("left(-1)", x.left(-1), BAD);
        due("left(HIGH)", x.left(HIGH), BAD);
    }

    private static void promise8() {
        Check.promise(8);
        MudLibrary x = new MudLibrary();
        due("next(0) without BOOKS", x.next(0), NONE);
        x.book(10, 5);
        x.book(10, 9);
        x.book(10, 5);
        x.book(10, 7);
        int[] order = {1, 3, 0, 2};
        for (int i = 0; i < 4; i++) {
            due("next(" + i + ")", x.next(i), order[i]);
        }
        due("next(4)", x.next(4), NONE);
        due("next(-1)", x.next(-1), NONE);
        due("next(LOW)", x.next(LOW), NONE);
        x.move(1, 3);
        x.pass(72);
        due("a DONE one is left out", x.next(0), 3);
        due("the last one", x.next(2), 2);
        due("no more", x.next(3), NONE);
        Check.text(x, "first -worth; may 1; value 1;");
        x.force(1);
        due("by another RULE", x.next(0), 0);
        due("by another RULE, the last", x.next(2), 3);
    }

    private static void promise9() {
        Check.promise(9);
        MudLibrary x = new MudLibrary();
        due("lost(-1) without BOOKS", x.lost(-1), 0);
        due("lost(0) without BOOKS", x.lost(0), NO);
        x.book(10, 999);
        x.book(10, 51);
        x.book(10, 0);
        x.pass(36);
        due("HARM", x.bookTold(0, 6), 9);
        due("lost(0)", x.lost(0), 89);
        due("lost(1)", x.lost(1), 4);
        due("lost(2)", x.lost(2), 0);
        due("lost(-1)", x.lost(-1), 93);
        due("lost(3)", x.lost(3), NO);
        due("lost(-2)", x.lost(-2), NO);
        due("lost(HIGH)", x.lost(HIGH), NO);
        Check.text(x, "first 1; may 1; value 52-worth;");
        x.force(1);
        due("what value comes to", x.says(0, 2), 52 - 999);
        due("a value below 0", x.lost(0), 0);
        due("a value of 1", x.lost(1), 0);
        due("a value of 52", x.lost(2), 4);
        Check.text(x, "first 1; may 1; value 9999*9999*21;");
        x.force(2);
        due("a great value", x.lost(0), 9999L * 9999 * 21 * 9 / 100);
        due("all of it", x.lost(-1), 9999L * 9999 * 21 * 9 / 100 * 3);
        x.pass(100);
        x.force(1);
        due("much HARM by a value below 0", x.lost(0), 0);
    }

    private static void textsAndTrials() {
        promise10();
        promise11();
        faults();
        openOnes();
        promise12();
        promise13();
        promise14();
        promise15();
    }

    private static void promise10() {
        Check.promise(10);
        MudLibrary x = new MudLibrary();
        due("feed(0, 1)", x.feed(0, 1), BAD);
        due("feed(9, 1)", x.feed(9, 1), BAD);
        due("feed(-1, 1)", x.feed(-1, 1), BAD);
        due("feed(HIGH, 1)", x.feed(HIGH, 1), BAD);
        due("feed(8)", x.feed(8, 0x2020202020202020L), 8);
        due("feed(3) of more", x.feed(3, 0xffff202020L), 11);
        due("tape", x.count(3), 11);
        due("blanks alone", x.text(), -111);
        for (int k = 1; k <= 19; k++) {
            due("feed " + k, x.feed(8, 0), 8 * k);
        }
        due("feed to 159", x.feed(7, 0), 159);
        due("two bytes too many", x.feed(2, 0), FULL);
        due("bad ahead of FULL", x.feed(9, 0), BAD);
        due("the last byte", x.feed(1, 0), 160);
        due("one byte too many", x.feed(1, 0), FULL);
        due("tape", x.count(3), 160);
        due("lowest first", Check.text(new MudLibrary(), "first 1;may 1;value 1;"), 1);
    }

    private static void promise11() {
        Check.promise(11);
        MudLibrary x = new MudLibrary();
        due("an empty TAPE", x.text(), -100);
        due("a good one", Check.text(x, "first 1;may 1;value 1;"), 1);
        due("THE TAPE is empty", x.count(3), 0);
        due("a bad one", Check.text(x, "first 1;may 1;value 1"), -121);
        due("THE TAPE is empty by a FAULT", x.count(3), 0);
        due("blanks of both sorts", Check.text(x, " \n first\n1 ;  may(1);\nvalue 1; \n"), 2);
        String most = "first mould;may mould;value mould;";
        due("160 bytes", Check.text(x, most + " ".repeat(160 - most.length())), 3);
        due("TEXT 4", Check.text(x, "first 1;may 1;value 1;"), 4);
        due("TEXT 5", Check.text(x, "first 1;may 1;value 1;"), 5);
        Check.feed(x, "first 1;");
        due("a TEXT too many", x.text(), FULL);
        due("THE TAPE stays", x.count(3), 8);
        due("TEXTS", x.count(2), 6);
    }

    private static void fault(String text, int place) {
        due("the FAULT of " + text, Check.text(new MudLibrary(), text), -100 - place);
    }

    private static void inFirst(String e, int place) {
        fault("first " + e + ";may 1;value 1;", 6 + place);
    }

    private static void faults() {
        fault("may 1;", 0);
        fault("  may 1;", 2);
        fault("first", 5);
        fault("first ", 6);
        fault("first 1", 7);
        fault("first 1;value 1;may 1;", 8);
        fault("first 1;may 1;value 1;;", 22);
        fault("first 1;may 1;value 1; first", 23);
        fault("first 1;may 1;value 1; \n ?", 25);
        fault("first1;may1;value1;first", 19);
        fault("firstmould;", 0);
        fault("First 1;", 0);
        fault("first\t1;", 5);
        fault("first 1,", 7);
        inFirst("12345", 0);
        inFirst("1 + 00001", 4);
        inFirst("1 1", 2);
        inFirst("1 12345", 2);
        inFirst("books", 0);
        inFirst("mouldy", 0);
        inFirst("moul", 0);
        inFirst("1 x", 2);
        inFirst("first", 0);
        inFirst("may", 0);
        inFirst("or 1", 0);
        inFirst("1 or", 4);
        inFirst("1 + not 1", 4);
        inFirst("- not 1", 2);
        inFirst("1 < 2 < 3", 6);
        inFirst("1 = 2 < 3", 6);
        inFirst("1 < not 2", 4);
        inFirst("()", 1);
        inFirst("(1", 2);
        inFirst("1)", 1);
        inFirst("1 > 2", 2);
        inFirst("1 / 2", 2);
        inFirst("1 * * 2", 4);
        inFirst("+ 1", 0);
        inFirst("\u0000", 0);
        inFirst("\u00ff", 0);
        due("a NUMBER of 4", Check.text(new MudLibrary(), "first 0001;may 9999;value 12mould;"), -100 - 28);
    }

    private static void openOnes() {
        inFirst("((((((1))))))", 5);
        inFirst("not not not not not not 1", 20);
        inFirst("------1", 5);
        inFirst("1-------1", 7);
        inFirst("(not (-(not (1))))", 8);
        inFirst("(not (-(-(1))))", 8);
        inFirst("not (not 1 < -(-(1)))", 15);
        MudLibrary x = new MudLibrary();
        due("5 brackets", Check.text(x, "first (((((1)))))+(((((1)))));may 1;value 1;"), 1);
        due("5 nots", Check.text(x, "first not not not not not 1 or not not not not not 1;may 1;value 1;"), 2);
        due("5 minuses", Check.text(x, "first -----1*-----1-----1;may 1;value 1;"), 3);
        due("all sorts", Check.text(x, "first (not (-(1)))<(not (not -1));may not not(not -1);value 1;"), 4);
        due("what ends is closed", Check.text(x, "first (not -1 and not -1 or not --(--1)) ;may 1;value 1;"),
            -100 - 35);
    }

    private static void promise12() {
        Check.promise(12);
        MudLibrary x = new MudLibrary();
        due("force(1) without", x.force(1), BAD);
        due("force(0)", x.force(0), 0);
        Check.text(x, "first 1;may 1;value 1;");
        Check.text(x, "first 2;may 2;value 2;");
        due("force(2)", x.force(2), 0);
        due("count(4)", x.count(4), 2);
        due("force(1)", x.force(1), 2);
        due("force(3)", x.force(3), BAD);
        due("force(-1)", x.force(-1), BAD);
        due("force(HIGH)", x.force(HIGH), BAD);
        due("count(4)", x.count(4), 1);
    }

    private static long comesTo(String e) {
        MudLibrary x = new MudLibrary();
        x.book(2345 - 100, 67);
        x.pass(3);
        due("a TEXT with " + e, Check.text(x, "first " + e + ";may 0;value 1;"), 1);
        x.force(1);
        return x.says(0, 0);
    }

    private static void promise13() {
        Check.promise(13);
        String[] es = {"mould", "ink", "paper", "worth", "age", "size", "1+2*3", "(1+2)*3", "10-3-2", "2*3-4*5",
            "-3+5", "-3*-4", "--3", "1<2", "2<1", "2<2", "2=2", "1+1=2", "2<1+2", "not 0", "not 7", "not 1=2",
            "not not 5", "0 or 0", "0 or 7", "7 and 9", "7 and 0", "0 and 7", "1 or 0 and 0", "(1 or 0) and 0",
            "not 0 and 0", "not (0 and 0)", "1<2 and 3<2", "(1<2)+(1<2)", "9999*9999*9999", "0-9999*9999*22",
            "0007", "1=1 or 1", "0-1 and 1", "not -1", "10 - -3", "2*(3+4)*5"};
        long[] due = {9, 2, 2, 67, 3, 45, 7, 9, 5, -14, 2, 12, 3, 1, 0, 0, 1, 1, 1, 1, 0, 1, 1, 0, 1, 1, 0, 0, 1, 0, 0, 1,
            0, 2, 9999 * 9999 * 9999, -(9999 * 9999 * 22), 7, 1, 1, 0, 13, 70};
        for (int k = 0; k < es.length; k++) {
            due(es[k], comesTo(es[k]), due[k]);
        }
        MudLibrary x = withBooks(1, 110);
        due("first of TEXT 0", x.says(0, 0), 10);
        due("may of TEXT 0", x.says(0, 1), 1);
        due("value of TEXT 0", x.says(0, 2), 10);
        due("says(0, 3)", x.says(0, 3), NO);
        due("says(0, -1)", x.says(0, -1), NO);
        due("says(1, 0)", x.says(1, 0), NO);
        due("says(-1, 0)", x.says(-1, 0), NO);
        Check.text(x, "first -1;may 5;value -7;");
        x.force(1);
        due("first below 0", x.says(0, 0), -1);
        due("may as it is", x.says(0, 1), 5);
        due("value below 0", x.says(0, 2), -7);
        x.book(210, 10);
        x.force(0);
        due("may of INK 2", x.says(1, 1), 0);
    }

    private static void promise14() {
        Check.promise(14);
        MudLibrary x = new MudLibrary();
        int[][] bad = {{-1, 0, 0}, {4, 0, 0}, {0, -1, 0}, {0, 4, 0}, {0, 0, -1}, {0, 0, 2}, {LOW, HIGH, HIGH}};
        for (int[] b : bad) {
            due("a bad TRIAL", x.trial(b[0], b[1], b[2]), BAD);
        }
        for (int k = 1; k <= 30; k++) {
            due("TRIAL " + k, x.trial(3, 3, k % 2), k);
        }
        due("a TRIAL too many", x.trial(3, 3, 1), FULL);
        due("a bad one too many", x.trial(3, 3, 2), BAD);
        due("TRIALS", x.count(5), 30);
        due("the last one stands", x.barred(3, 3, 0), 0);
    }

    private static void promise15() {
        Check.promise(15);
        MudLibrary x = new MudLibrary();
        due("without any", x.barred(1, 2, 0), 0);
        x.trial(1, 2, 1);
        x.pass(10);
        x.trial(1, 2, 0);
        x.trial(1, 2, 1);
        x.trial(1, 2, 0);
        x.pass(10);
        x.trial(1, 2, 1);
        x.trial(2, 1, 0);
        due("in HOUR 0", x.barred(1, 2, 0), 1);
        due("in HOUR 9", x.barred(1, 2, 9), 1);
        due("in HOUR 10", x.barred(1, 2, 10), 0);
        due("in HOUR 19", x.barred(1, 2, 19), 0);
        due("in HOUR 20", x.barred(1, 2, 20), 1);
        due("in HOUR 21", x.barred(1, 2, 21), BAD);
        due("in HOUR -1", x.barred(1, 2, -1), BAD);
        due("of another PAPER", x.barred(1, 1, 20), 0);
        due("of another INK", x.barred(2, 2, 20), 0);
        due("INK 0 for PAPER 0", x.barred(0, 0, 0), 0);
        due("INK 3 for PAPER 3", x.barred(3, 3, 0), 0);
        due("INK 4", x.barred(4, 2, 0), BAD);
        due("INK -1", x.barred(-1, 2, 0), BAD);
        due("PAPER 4", x.barred(1, 4, 0), BAD);
        due("PAPER -1", x.barred(1, -1, 0), BAD);
    }

    private static void lotsAndHands() {
        promise16();
        promise17();
        promise18();
    }

    private static void promise16() {
        Check.promise(16);
        MudLibrary x = new MudLibrary();
        due("no BOOKS", x.lots(0, 1, -1), 0);
        due("no BOOKS, the first", x.lots(0, 1, 0), NONE);
        due("bits without BOOKS", x.lots(1, 1, -1), BAD);
        x.book(10, 100);
        x.book(10, 900);
        x.book(10, 900);
        x.book(10, 1);
        x.book(10, 50);
        x.book(10, 50);
        due("6 of them", x.lots(63, 1, -1), BAD);
        due("another one", x.lots(64, 1, -1), BAD);
        due("below 0", x.lots(LOW, 1, -1), BAD);
        due("n 0", x.lots(1, 0, -1), BAD);
        due("n 25", x.lots(1, 25, -1), BAD);
        due("n LOW", x.lots(1, LOW, -1), BAD);
        due("i -2", x.lots(1, 1, -2), NONE);
        due("i 1 of 1", x.lots(1, 1, 1), NONE);
        x.pass(30);
        int[] order = {1, 2, 0, 4, 3};
        for (int i = 0; i < 5; i++) {
            due("lots(31, 10, " + i + ")", x.lots(31, 10, i), order[i]);
        }
        due("nothing changes", x.count(0) * 1000 + x.bookTold(1, 0) * 100 + x.count(14), 30100);
        due("all LOST of one", x.lots(1, 1, -1), 0);
        passAll(x, 960);
        due("to HOUR 999", x.lots(7, 3, 0), 0);
        due("beyond HOUR 999", x.lots(7, 4, 0), FULL);
        due("BAD ahead of FULL", x.lots(64, 24, 9), BAD);
        due("FULL ahead of NONE", x.lots(7, 4, 9), FULL);
        turnsThatGoBy();
        lotsByTheRule();
    }

    /** With ROOM for one alone, whose ROOM is free again when it is DONE. */
    private static void turnsThatGoBy() {
        MudLibrary x = new MudLibrary();
        x.book(10, 10);
        x.book(10, 999);
        x.book(5, 998);
        x.set(2, 20);
        x.set(0, 40);
        x.pass(16);
        due("the greatest first", x.lots(7, 24, 0), 1);
        due("then like ones", x.lots(7, 24, 1), 0);
        due("then like ones", x.lots(7, 24, 2), 2);
        // 0: WET 40 HOURS from 16, MOULD 96 then: HARM 32 * 3 in it, a BLOCK for 40; 2: the same; 1: 72 DRYING.
        long harm = 32 * 3 + 40 * 7;
        long all = 10 * harm / 100 + 998 * harm / 100 + 999 * 69 / 100;
        due("all LOST", x.lots(7, 24, -1), all / 1000);
        MudLibrary y = withBooks(2, 10);
        y.move(0, 3);
        y.set(2, 20);
        y.pass(71);
        due("the one that is DONE by then frees ROOM", y.lots(3, 1, 0), 0);
        due("the other one", y.lots(3, 1, 1), 1);
    }

    private static void lotsByTheRule() {
        MudLibrary x = withBooks(2, 10);
        x.pass(40);
        Check.text(x, "first 1;may 1;value 9999*9999*21;");
        x.force(1);
        // Both are harmed alike, so the least BOOK is first; HARM: 21, then 10 HOURS DRYING, of one 5 of them WET.
        long first = 9999L * 9999 * 21 * (21 + 10) / 100;
        long second = 9999L * 9999 * 21 * (21 + 5 * 3 + 5) / 100;
        due("all LOST in thousands", x.lots(3, 5, -1), (first + second) / 1000);
        due("the first", x.lots(3, 5, 0), 0);
        due("the second", x.lots(3, 5, 1), 1);
        Check.text(x, "first 1;may 1;value age*100;");
        x.force(2);
        // The age is that of the end: 10 and 5 HOURS.
        due("by the age then", x.lots(3, 5, -1), (1000 * 31 / 100 + 500 * 41 / 100) / 1000);
    }

    private static void promise17() {
        Check.promise(17);
        MudLibrary x = new MudLibrary();
        int[][] bad = {{-1, 0}, {100, 0}, {0, -1}, {0, 10}, {LOW, HIGH}};
        for (int[] b : bad) {
            due("a bad HAND", x.hand(b[0], b[1]), BAD);
        }
        for (int k = 0; k < 6; k++) {
            due("HAND " + k, x.hand(k == 0 ? 99 : 0, 9), k);
        }
        due("a HAND too many", x.hand(0, 0), FULL);
        due("a bad one too many", x.hand(100, 0), BAD);
        due("HANDS", x.count(6), 6);
    }

    private static void promise18() {
        Check.promise(18);
        MudLibrary x = new MudLibrary();
        due("no HANDS", x.pace(0), 0);
        due("pace(1) without", x.pace(1), BAD);
        x.hand(90, 5);
        x.hand(10, 3);
        x.pass(1);
        x.hand(20, 7);
        due("all", x.pace(7), 120);
        due("some", x.pace(5), 110);
        passAll(x, 166);
        due("ahead of a WEEK", x.pace(7), 120);
        x.pass(1);
        due("a WEEK of two", x.pace(7), 95 + 13 + 20);
        x.pass(1);
        due("a WEEK of all", x.pace(7), 95 + 13 + 27);
        passAll(x, 168);
        due("99 at most", x.pace(7), 99 + 16 + 34);
        due("others", x.pace(8), BAD);
        due("others with them", x.pace(15), BAD);
        due("below 0", x.pace(-1), BAD);
        due("LOW", x.pace(LOW), BAD);
    }

    private static void leaves() {
        promise19();
        promise20();
        promise21();
        promise22();
    }

    private static void promise19() {
        Check.promise(19);
        MudLibrary x = new MudLibrary();
        due("leaf(-1)", x.leaf(-1), BAD);
        due("leaf(10000)", x.leaf(10000), BAD);
        due("leaf(HIGH)", x.leaf(HIGH), BAD);
        due("leaf(0)", x.leaf(0), 0);
        due("leaf(9999)", x.leaf(9999), 1);
        for (int k = 2; k < 6; k++) {
            due("LEAF " + k, x.leaf(k), k);
        }
        due("a LEAF too many", x.leaf(1), FULL);
        due("a bad one too many", x.leaf(-1), BAD);
        due("LEAVES", x.count(7), 6);
    }

    private static void promise20() {
        Check.promise(20);
        MudLibrary x = new MudLibrary();
        due("without a BOOK", x.gap(0, 0), BAD);
        x.book(1, 1);
        due("gap(0, -1)", x.gap(0, -1), BAD);
        due("gap(0, 14641)", x.gap(0, 14641), BAD);
        due("gap(1, 0)", x.gap(1, 0), BAD);
        due("gap(-1, 0)", x.gap(-1, 0), BAD);
        due("gap(0, 0)", x.gap(0, 0), 0);
        due("gap(0, 14640)", x.gap(0, 14640), 1);
        for (int k = 2; k < 6; k++) {
            due("GAP " + k, x.gap(0, k), k);
        }
        due("a GAP too many", x.gap(0, 1), FULL);
        due("a bad one too many", x.gap(1, 1), BAD);
        due("GAPS", x.count(8), 6);
    }

    private static int gapMarks(int a, int b, int c, int d) {
        return a + 11 * b + 121 * c + 1331 * d;
    }

    private static void promise21() {
        Check.promise(21);
        MudLibrary x = withBooks(1, 10);
        x.leaf(4321);
        x.leaf(0);
        x.gap(0, gapMarks(1, 2, 3, 4));
        x.gap(0, gapMarks(1, 2, 10, 9));
        x.gap(0, gapMarks(2, 2, 3, 4));
        x.gap(0, gapMarks(10, 2, 3, 0));
        x.gap(0, gapMarks(10, 10, 10, 10));
        x.gap(0, gapMarks(0, 0, 10, 0));
        int[][] due = {{4, 2, 0, 2, 0, 0}, {0, 0, 0, 1, 0, 3}};
        for (int leaf = 0; leaf < 2; leaf++) {
            for (int gap = 0; gap < 6; gap++) {
                due("agrees(" + leaf + ", " + gap + ")", x.agrees(leaf, gap), due[leaf][gap]);
            }
        }
        due("agrees(2, 0)", x.agrees(2, 0), BAD);
        due("agrees(-1, 0)", x.agrees(-1, 0), BAD);
        due("agrees(0, 6)", x.agrees(0, 6), BAD);
        due("agrees(0, -1)", x.agrees(0, -1), BAD);
    }

    private static void promise22() {
        Check.promise(22);
        MudLibrary x = withBooks(1, 10);
        due("without any", x.joined(-1), 0);
        due("joined(0) without", x.joined(0), BAD);
        x.leaf(1111);
        due("without GAPS", x.joined(-1), 0);
        due("joined(0) without GAPS", x.joined(0), NONE);
        x.leaf(1111);
        x.leaf(2111);
        x.gap(0, gapMarks(1, 1, 10, 10));
        due("like ones: LEAF 0", x.joined(0), 0);
        due("like ones: LEAF 1", x.joined(1), NONE);
        due("like ones: LEAF 2", x.joined(2), NONE);
        x.gap(0, gapMarks(1, 1, 1, 2));
        due("all", x.joined(-1), 6);
        due("LEAF 0 gives way in GAP 1", x.joined(0), 0);
        due("LEAF 1", x.joined(1), NONE);
        due("LEAF 2", x.joined(2), 1);
        x.gap(0, gapMarks(10, 1, 10, 10));
        due("all", x.joined(-1), 7);
        due("LEAF 0 has the rest", x.joined(0), 0);
        due("LEAF 1 has the rest", x.joined(1), 2);
        due("LEAF 2", x.joined(2), 1);
        MudLibrary y = withBooks(1, 10);
        y.leaf(1110);
        y.leaf(1111);
        y.gap(0, gapMarks(10, 1, 10, 10));
        y.gap(0, gapMarks(1, 10, 10, 10));
        y.gap(0, gapMarks(10, 1, 1, 10));
        due("no GAP is given for the least one", y.joined(-1), 3);
        due("LEAF 0 goes to GAP 0", y.joined(0), 0);
        due("LEAF 1 to GAP 2", y.joined(1), 2);
        y.leaf(9999);
        due("a LEAF that agrees in none", y.joined(2), NONE);
        due("joined(3)", x.joined(3), BAD);
        due("joined(-2)", x.joined(-2), BAD);
    }

    private static void listsCratesYears() {
        promise23();
        promise24();
        promise25();
        promise26();
        promise27();
        promise28();
        promise29();
        promise30();
    }

    private static void promise23() {
        Check.promise(23);
        MudLibrary x = new MudLibrary();
        int[][] bad = {{-1, 0, 0}, {4, 0, 0}, {0, -1, 0}, {0, 10000, 0}, {0, 0, -1}, {0, 0, 10000}};
        for (int[] b : bad) {
            due("a bad LIST", x.list(b[0], b[1], b[2]), BAD);
        }
        due("least above most", x.list(3, 9999, 0), 1);
        for (int k = 2; k <= 20; k++) {
            due("LIST " + k, x.list(0, 0, 9999), k);
        }
        due("a LIST too many", x.list(0, 0, 0), FULL);
        due("a bad one too many", x.list(4, 0, 0), BAD);
        due("LISTS", x.count(9), 20);
    }

    private static void promise24() {
        Check.promise(24);
        MudLibrary x = withBooks(3, 1010);
        int[] without = {0, 9999, 0, 9996};
        for (int what = 0; what < 4; what++) {
            due("without LISTS " + what, x.were(1, 0, what), without[what]);
        }
        x.list(1, 2, 50);
        x.pass(5);
        x.list(1, 10, 80);
        x.list(2, 60, 70);
        int[][] due = {{2, 50, 0, 47}, {10, 50, 7, 47}};
        for (int what = 0; what < 4; what++) {
            due("in HOUR 4: " + what, x.were(1, 4, what), due[0][what]);
            due("in HOUR 5: " + what, x.were(1, 5, what), due[1][what]);
        }
        x.list(1, 50, 50);
        due("just one number", x.were(1, 5, 0), 50);
        x.pass(1);
        x.list(1, 0, 49);
        due("not both", x.were(1, 6, 0), STATE);
        due("not both, MISSING", x.were(1, 6, 3), STATE);
        due("both ahead", x.were(1, 5, 1), 50);
        due("PAPER 0", x.were(0, 0, 1), 9999);
        due("PAPER 3", x.were(3, 0, 1), 9999);
        due("HOUR 7", x.were(1, 7, 0), BAD);
        due("HOUR -1", x.were(1, -1, 0), BAD);
        due("PAPER 4", x.were(4, 0, 0), BAD);
        due("PAPER -1", x.were(-1, 0, 0), BAD);
        due("what 4", x.were(1, 0, 4), BAD);
        due("what -1", x.were(1, 0, -1), BAD);
    }

    private static void promise25() {
        Check.promise(25);
        MudLibrary x = new MudLibrary();
        int[][] bad = {{-1, 0}, {1000, 0}, {0, -1}, {0, 4}, {LOW, HIGH}};
        for (int[] b : bad) {
            due("a bad CRATE", x.crate(b[0], b[1]), BAD);
        }
        for (int k = 0; k < 20; k++) {
            due("CRATE " + k, x.crate(999, 3), k);
        }
        due("a CRATE too many", x.crate(0, 0), FULL);
        due("a bad one too many", x.crate(0, 4), BAD);
        due("CRATES", x.count(10), 20);
    }

    private static void promise26() {
        Check.promise(26);
        MudLibrary x = new MudLibrary();
        int[][] bad = {{-1, 1, 1}, {4, 1, 1}, {0, -1, 1}, {0, 0, 1}, {0, 5005, 1}, {0, 6005, 1}, {0, 999999, 1},
            {0, 1000999, 1}, {0, HIGH, 1}, {0, 1, -1}, {0, 1, 10000}, {0, 1, 100}, {0, 1, 5049}, {0, 1, LOW}};
        for (int[] b : bad) {
            due("chain(" + b[0] + ", " + b[1] + ", " + b[2] + ")", x.chain(b[0], b[1], b[2]), BAD);
        }
        due("the least", x.chain(0, 1, 0), 1);
        due("the most", x.chain(3, 998999, 9999), 2);
        for (int k = 3; k <= 40; k++) {
            due("telling " + k, x.chain(1, 5006, 1010), k);
        }
        due("a telling too many", x.chain(1, 5006, 1010), FULL);
        due("a bad one too many", x.chain(1, 5005, 1010), BAD);
        due("tellings", x.count(11), 40);
    }

    private static void promise27() {
        Check.promise(27);
        MudLibrary x = new MudLibrary();
        due("without CRATES", x.from(0), BAD);
        x.crate(4, 2);
        x.crate(5, 2);
        x.crate(9, 2);
        x.crate(10, 2);
        x.crate(5, 1);
        due("without tellings", x.from(0), NONE);
        x.chain(2, 5010, 1050);
        due("ahead of it", x.from(0), NONE);
        due("its first HOUR", x.from(1), 1050);
        due("its last HOUR", x.from(2), 1050);
        due("behind it", x.from(3), NONE);
        due("another DOOR", x.from(4), NONE);
        x.chain(2, 9999, 5099);
        due("one SHELF of two tellings", x.from(2), 5050);
        due("of the second alone", x.from(3), 5099);
        x.chain(2, 9010, 9);
        due("not both", x.from(2), NONE);
        x.chain(1, 999, 0);
        due("SHELF 0", x.from(4), 0);
        x.chain(1, 999, 50);
        due("SHELF 0 still", x.from(4), 0);
        due("from(5)", x.from(5), BAD);
        due("from(-1)", x.from(-1), BAD);
    }

    private static void promise28() {
        Check.promise(28);
        MudLibrary x = new MudLibrary();
        int[][] bad = {{0, 0}, {1000, 0}, {-1, 0}, {1, -1}, {1, 1000}, {LOW, HIGH}};
        for (int[] b : bad) {
            due("a bad KIND", x.kind(b[0], b[1]), BAD);
        }
        for (int k = 0; k < 6; k++) {
            due("KIND " + k, x.kind(k == 0 ? 999 : 1, k == 0 ? 999 : 0), k);
        }
        due("a KIND too many", x.kind(1, 0), FULL);
        due("a bad one too many", x.kind(0, 0), BAD);
        due("KINDS", x.count(12), 6);
    }

    private static void years(MudLibrary x, int n, int coin, int... due) {
        for (int i = -2; i < due.length - 2; i++) {
            due("years(" + n + ", " + coin + ", " + i + ")", x.years(n, coin, i), due[i + 2]);
        }
    }

    private static void promise29() {
        Check.promise(29);
        MudLibrary x = new MudLibrary();
        years(x, 4, 9999, 0, 0, NONE);
        x.kind(10, 5);
        x.kind(20, 30);
        x.kind(15, 1);
        years(x, 3, 10, 30, 65, 2, 1, NONE, NONE);
        years(x, 4, 100, 45, 144, 0, 0, 0, NONE);
        years(x, 1, 0, 0, 0, NONE, NONE, NONE);
        years(x, 1, 45, 45, 36, 0, 0, 0);
        years(x, 1, 44, 30, 35, 0, 0, NONE);
        MudLibrary like = new MudLibrary();
        like.kind(10, 5);
        like.kind(10, 5);
        like.kind(5, 0);
        years(like, 2, 10, 20, 15, 0, 1, NONE);
        years(like, 1, 10, 10, 5, 0, NONE, NONE);
        MudLibrary least = new MudLibrary();
        least.kind(20, 10);
        least.kind(12, 10);
        years(least, 1, 20, 12, 10, NONE, 0);
        MudLibrary six = new MudLibrary();
        for (int k = 0; k < 6; k++) {
            six.kind(999, 999);
        }
        years(six, 4, 9999, 5994, 6 * 999 * 4, 0, 0, 0, 0, 0, 0, NONE);
        years(six, 4, 1998, 5994, 999 * 2 * (4 + 3 + 2), 0, 0, 1, 1, 2, 2, NONE);
        due("n 0", x.years(0, 1, 0), BAD);
        due("n 5", x.years(5, 1, 0), BAD);
        due("coin -1", x.years(1, -1, 0), BAD);
        due("coin 10000", x.years(1, 10000, 0), BAD);
        due("i -3", x.years(1, 1, -3), NONE);
        due("i HIGH", x.years(1, 1, HIGH), NONE);
        due("BAD ahead of NONE", x.years(5, 1, HIGH), BAD);
    }

    private static void promise30() {
        Check.promise(30);
        MudLibrary x = withBooks(7, 31);
        x.pass(3);
        x.move(0, 2);
        x.move(1, 2);
        x.move(2, 3);
        x.move(3, 3);
        x.move(3, 5);
        Check.text(x, "first 1;may 1;value 1;");
        x.force(1);
        Check.feed(x, "first");
        int[] due = {3, 7, 2, 5, 1, 0, 0, 0, 0, 0, 0, 0, 0, 62, 124};
        for (int what = 0; what < due.length; what++) {
            due("count(" + what + ")", x.count(what), due[what]);
        }
        x.trial(0, 0, 0);
        x.hand(0, 0);
        x.leaf(0);
        x.gap(0, 0);
        x.list(0, 0, 0);
        x.crate(0, 0);
        x.chain(0, 1, 0);
        x.kind(1, 0);
        for (int what = 5; what <= 12; what++) {
            due("count(" + what + ")", x.count(what), 1);
        }
        due("count(-1)", x.count(-1), BAD);
        due("count(15)", x.count(15), BAD);
        due("count(LOW)", x.count(LOW), BAD);
    }

    private static void host() {
        promise31();
        promise32();
        promise33();
        promise34();
        promise35();
    }

    private static void promise31() {
        Check.promise(31);
        MudLibrary x = new MudLibrary();
        due("sheet(-1, 0, 1)", x.sheet(-1, 0, 1), BAD);
        due("sheet(4, 0, 1)", x.sheet(4, 0, 1), BAD);
        due("sheet(0, -2, 1)", x.sheet(0, -2, 1), BAD);
        due("sheet(0, 3, 1)", x.sheet(0, 3, 1), BAD);
        due("sheet(0, 0, 41)", x.sheet(0, 0, 41), BAD);
        due("sheet(0, 0, -1)", x.sheet(0, 0, -1), -14);
        due("sheet(0, 2, LOW)", x.sheet(0, 2, LOW), -14);
        due("sheet(4, 2, -1)", x.sheet(4, 2, -1), BAD);
        due("sheet(0, 3, -1)", x.sheet(0, 3, -1), BAD);
        due("nothing is there", x.cell(0, 0, 1), -11);
        due("missing, any n", x.sheet(0, -1, 99), 1);
        due("missing, any n", x.sheet(0, -1, -99), 1);
        due("a row of 0", x.sheet(0, 0, 0), 1);
        due("of no items", x.cell(0, 0, 1), -12);
        due("a row of 40", x.sheet(3, 2, 40), 1);
        x.cell(3, 38, 1203);
        x.cell(3, 39, 7);
        due("refused, it stays", x.sheet(3, 2, 41), BAD);
        due("it stands", x.books(3, 2, 38, 1), 1);
        x.sheet(3, 2, 40);
        due("all 0", x.books(3, 2, 38, 1), 0);
        x.sheet(3, -1, 0);
        due("missing again", x.cell(3, 0, 1), -11);
    }

    private static void promise32() {
        Check.promise(32);
        MudLibrary x = new MudLibrary();
        due("cell(-1, 0, 1)", x.cell(-1, 0, 1), BAD);
        due("cell(4, 0, 1)", x.cell(4, 0, 1), BAD);
        due("cell(2, 0, 1)", x.cell(2, 0, 1), -11);
        due("cell(2, -1, 1)", x.cell(2, -1, 1), -11);
        for (int sort = 0; sort < 3; sort++) {
            x.sheet(sort, sort, 4);
            due("cell at -1", x.cell(sort, -1, 1), -12);
            due("cell at 4", x.cell(sort, 4, 1), -12);
            due("cell at HIGH", x.cell(sort, HIGH, 1), -12);
            due("cell at LOW", x.cell(sort, LOW, 1), -12);
            due("cell at 0", x.cell(sort, 0, 256 + 99), 1);
            due("cell at 1", x.cell(sort, 1, 65536 + 256 + 99), 1);
            due("cell at 2", x.cell(sort, 2, 200), 1);
            due("cell at 3", x.cell(sort, 3, 32768 + 999), 1);
            // (99, 99), (355, 355) or (355, 65891); then (-56, -25), (200, -31769) or (200, 33767)
            due("BOOKS", x.books(sort, sort, 0, 2), sort == 2 ? 0 : 1);
        }
        due("of bytes", x.bookTold(0, 3) * 1000 + x.bookTold(0, 4), 99099);
        due("of shorts", x.bookTold(1, 3) * 1000 + x.bookTold(1, 4), 55355);
        due("INK of shorts", x.bookTold(1, 2), 3);
    }

    private static void promise33() {
        Check.promise(33);
        MudLibrary x = new MudLibrary();
        x.sheet(0, 1, 6);
        x.sheet(1, 1, 4);
        x.sheet(2, 2, 4);
        due("sheet 4", x.copy(4, 0, 0, 0, 1), BAD);
        due("sheet -1", x.copy(-1, 0, 0, 0, 1), BAD);
        due("other 4", x.copy(0, 0, 4, 0, 1), BAD);
        due("other -1, missing", x.copy(3, 0, -1, 0, 1), BAD);
        due("missing", x.copy(3, 0, 0, 0, 1), -11);
        due("other missing", x.copy(0, 9, 3, 0, 1), -11);
        due("both missing", x.copy(3, 0, 3, 0, -1), -11);
        due("unlike sorts", x.copy(0, 0, 2, 0, 1), -13);
        due("unlike sorts, outside", x.copy(0, 9, 2, 0, -1), -13);
        int[][] outside = {{-1, 0, 1}, {0, -1, 1}, {0, 0, -1}, {0, 0, 5}, {6, 0, 1}, {0, 4, 1}, {7, 0, 0}, {0, 5, 0},
            {3, 0, 4}, {1, 0, HIGH}, {HIGH, 0, HIGH}, {0, 1, HIGH}, {0, 0, LOW}};
        for (int[] o : outside) {
            due("copy(0, " + o[0] + ", 1, " + o[1] + ", " + o[2] + ")", x.copy(0, o[0], 1, o[1], o[2]), -12);
        }
        due("none at the end", x.copy(0, 6, 1, 4, 0), 0);
        due("none", x.copy(0, 0, 0, 0, 0), 0);
        for (int k = 0; k < 6; k++) {
            x.cell(0, k, 11 + k);
        }
        due("some", x.copy(0, 2, 1, 0, 4), 4);
        due("BOOKS", x.books(1, 1, 0, 2), 2);
        due("first", x.bookTold(0, 3) * 100 + x.bookTold(0, 4), 1314);
        due("second", x.bookTold(1, 3) * 100 + x.bookTold(1, 4), 1516);
        due("onto itself, behind", x.copy(0, 0, 0, 1, 5), 5);
        x.books(0, 1, 0, 3);
        due("as they were", x.bookTold(2, 3) * 100 + x.bookTold(2, 4), 1111);
        due("as they were", x.bookTold(4, 3) * 100 + x.bookTold(4, 4), 1415);
        due("onto itself, ahead", x.copy(0, 2, 0, 0, 4), 4);
        x.books(0, 1, 0, 2);
        due("as they were", x.bookTold(5, 3) * 100 + x.bookTold(5, 4), 1213);
        due("as they were", x.bookTold(6, 3) * 100 + x.bookTold(6, 4), 1415);
    }

    private static void promise34() {
        Check.promise(34);
        MudLibrary x = new MudLibrary();
        x.sheet(0, 1, 7);
        int[] cells = {3399, 999, 0, 5, 1, 0, 2};
        for (int k = 0; k < cells.length; k++) {
            x.cell(0, k, cells[k]);
        }
        due("sheet 4", x.books(4, 1, 0, 1), BAD);
        due("sheet -1", x.books(-1, 1, 0, 1), BAD);
        due("sort 3", x.books(0, 3, 0, 1), BAD);
        due("sort -1", x.books(0, -1, 0, 1), BAD);
        due("sort -1 of a missing one", x.books(1, -1, 0, 1), BAD);
        due("n -1", x.books(0, 1, 0, -1), BAD);
        due("n 21", x.books(0, 1, 0, 21), BAD);
        due("n 21 of another sort", x.books(0, 2, 0, 21), BAD);
        due("another sort", x.books(0, 2, 0, 1), -13);
        due("another sort, outside", x.books(0, 0, 99, 1), -13);
        due("missing", x.books(1, 1, 99, 1), -11);
        due("none of them", x.books(0, 1, 0, 0), 0);
        due("at -1", x.books(0, 1, -1, 1), -12);
        due("at 6", x.books(0, 1, 6, 1), -12);
        due("at HIGH", x.books(0, 1, HIGH, 20), -12);
        due("at LOW", x.books(0, 1, LOW, 20), -12);
        due("no BOOKS yet", x.count(1), 0);
        due("three, one left out", x.books(0, 1, 0, 3), 2);
        due("the second", x.bookTold(1, 3) * 1000 + x.bookTold(1, 4), 1000);
        due("what stood ahead came", x.books(0, 1, 0, 4), -12);
        due("BOOKS", x.count(1), 4);
        x.sheet(2, 0, 40);
        for (int k = 0; k < 40; k++) {
            x.cell(2, k, 5);
        }
        due("20", x.books(2, 0, 0, 20), 20);
        due("none has room", x.books(2, 0, 0, 20), 0);
        due("BOOKS", x.count(1), 24);
        MudLibrary y = withBooks(22, 1);
        y.sheet(2, 0, 40);
        for (int k = 0; k < 40; k++) {
            y.cell(2, k, 5);
        }
        due("just two have room", y.books(2, 0, 0, 20), 2);
    }

    private static void promise35() {
        Check.promise(35);
        int[] under = {0b000001, 0b000011, 0b000101, 0b001001, 0b010011, 0b101001};
        for (int state = 0; state < 6; state++) {
            MudLibrary x = in(state);
            for (int k = 0; k < 6; k++) {
                due("taken(0, " + k + ") of " + state, x.taken(0, k), (under[state] >> k & 1) == 1 ? 10 : -13);
            }
            due("taken(0, 6)", x.taken(0, 6), BAD);
            due("taken(0, -1)", x.taken(0, -1), BAD);
            due("taken(1, 6)", x.taken(1, 6), BAD);
            due("taken(1, 0)", x.taken(1, 0), -11);
            due("taken(-1, 0)", x.taken(-1, 0), -11);
        }
    }
}
