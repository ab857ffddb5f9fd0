/** Terms 1, sentence by sentence: the last number that is taken, the first that is not, and what is cut. */
public final class BoundsOfBooksTest {
    private static final int NONE = -1, BAD = -2, STATE = -3, FULL = -4;
    private static final long NO = -4611686018427387904L;
    private static final int LOW = Integer.MIN_VALUE, HIGH = Integer.MAX_VALUE;
    private static final int DONE = 0, WET = 1, FROZEN = 2, DRYING = 3, BLOCK = 4, WASHED = 5;

    private BoundsOfBooksTest() {
    }

    public static void main(String[] args) {
        hours();
        heat();
        coin();
        books();
        looks();
        worths();
        startOfBooks();
        toldNumbers();
        since();
        mouldGrows();
        mouldGrowsInHours();
        harmFrom100();
        harmByMouldAsItIsThen();
        harmGrows();
        costs();
        costOfHours();
        rooms();
        mouldAtMost();
        harmAtMost();
        wetBecomesBlock();
        dryingBecomesDone();
        washedBecomesDone();
        othersStay();
        becomesInOneLongPass();
        moved();
        thaws();
        freezers();
        barns();
        toldToHoldLess();
        washedComesAnew();
        otherRoomsAreFree();
        roomIsFreeAgain();
        mayBeWashed();
        leftAtLeast();
        Check.end("BoundsOfBooksTest");
    }

    private static void due(String call, long got, long want) {
        Check.due(call, got, want);
    }

    /** A BOOK of a SIZE (PAPER 0, INK 0, WORTH 10), just now of a STATE. */
    private static MudLibrary in(int state, int size) {
        MudLibrary x = Check.withBooks(1, size);
        if (state == BLOCK) {
            x.pass(48);
        } else if (state == FROZEN) {
            x.move(0, FROZEN);
        } else if (state != WET) {
            x.move(0, DRYING);
        }
        if (state == DONE) {
            x.pass(72);
        } else if (state == WASHED) {
            x.move(0, WASHED);
        }
        Check.due("STATE that is made", x.bookTold(0, 0), state);
        return x;
    }

    private static void hours() {
        Check.sentence("HOURS are 0 .. 999; HOUR is 0 at first");
        MudLibrary x = new MudLibrary();
        due("HOUR at first", x.count(0), 0);
        for (int k = 1; k <= 9; k++) {
            due("pass(100)", x.pass(100), 100 * k);
        }
        due("pass(100) from 900", x.pass(100), FULL);
        due("pass(99) from 900", x.pass(99), 999);
        due("pass(1) from 999", x.pass(1), FULL);
        due("pass(100) from 999", x.pass(100), FULL);
        due("HOUR stays", x.count(0), 999);
        due("BAD ahead of FULL, above", x.pass(101), BAD);
        due("BAD ahead of FULL, below", x.pass(0), BAD);
        due("HIGH", x.pass(HIGH), BAD);
        due("a BOOK of the last HOUR", x.book(1, 1), 0);
        due("SINCE", x.bookTold(0, 7), 999);
    }

    private static void heat() {
        Check.sentence("HEAT (0 .. 40) is 10 at first");
        MudLibrary x = new MudLibrary();
        due("at first, and the most", x.set(0, 40), 10);
        due("41", x.set(0, 41), NO);
        due("-1", x.set(0, -1), NO);
        due("LOW", x.set(0, LOW), NO);
        due("HIGH", x.set(0, HIGH), NO);
        due("refused ones change nothing; the least", x.set(0, 0), 40);
        due("0 stood", x.set(0, 1), 0);
    }

    private static void coin() {
        Check.sentence("ROOM of FREEZERS (1), of BARNS (2; 0 .. 9999), COIN (3; 0 .. 999999)");
        int[] first = {10, 200, 300, 0};
        int[] most = {40, 9999, 9999, 999999};
        for (int what = 1; what <= 3; what++) {
            MudLibrary x = new MudLibrary();
            due("at first, and the most of " + what, x.set(what, most[what]), first[what]);
            due("one more of " + what, x.set(what, most[what] + 1), NO);
            due("one below 0 of " + what, x.set(what, -1), NO);
            due("LOW of " + what, x.set(what, LOW), NO);
            due("refused ones change nothing of " + what, x.set(what, 0), most[what]);
            due("0 stood of " + what, x.set(what, 5), 0);
            for (int other = 0; other <= 3; other++) {
                due("no other than " + what, x.set(other, 1), other == what ? 5 : first[other]);
            }
        }
        MudLibrary x = new MudLibrary();
        due("what -1", x.set(-1, 1), NO);
        due("what 4", x.set(4, 1), NO);
        due("what -1 and v -1", x.set(-1, -1), NO);
        Check.sentence("COIN may go below 0");
        x = in(DRYING, 10);
        x.set(3, 3);
        x.pass(1);
        due("1 is left", x.set(3, 1), 1);
        x.pass(1);
        due("below 0", x.set(3, 0), -1);
        x.pass(69);
        due("the 69th to the 71st", x.set(3, 2), -138);
        x.pass(1);
        due("just all is spent by the last HOUR", x.set(3, 0), 0);
    }

    private static void books() {
        Check.sentence("BOOKS (24 at most, numbered from 0)");
        MudLibrary x = new MudLibrary();
        due("bookTold(0, 0) without any", x.bookTold(0, 0), BAD);
        for (int k = 0; k < 24; k++) {
            due("BOOK " + k, x.book(1 + k, k), k);
        }
        due("BOOK 24", x.book(1, 1), FULL);
        due("BAD ahead of FULL, look", x.book(0, 1), BAD);
        due("BAD ahead of FULL, worth", x.book(1, 1000), BAD);
        due("how many", x.count(1), 24);
        due("SIZE of BOOK 0", x.bookTold(0, 3), 1);
        due("SIZE of BOOK 23", x.bookTold(23, 3), 24);
        due("WORTH of BOOK 23", x.bookTold(23, 4), 23);
        due("bookTold(24, 0)", x.bookTold(24, 0), BAD);
        due("left(23)", x.left(23), 34);
        due("left(24)", x.left(24), BAD);
        due("lost(23)", x.lost(23), 0);
        due("lost(24)", x.lost(24), NO);
        due("says(23, 0)", x.says(23, 0), 23);
        due("says(24, 0)", x.says(24, 0), NO);
        due("next(23)", x.next(23), 0);
        due("next(24)", x.next(24), NONE);
        due("move(24, 3)", x.move(24, DRYING), BAD);
        due("move(23, 3)", x.move(23, DRYING), WET);
        due("taken(23, 3)", x.taken(23, DRYING), 24);
        due("taken(24, 3)", x.taken(24, DRYING), -11);
        due("gap(23, 0)", x.gap(23, 0), 0);
        due("gap(24, 0)", x.gap(24, 0), BAD);
        due("lots of the last one", x.lots(1 << 22 | 1 << 23, 1, 0), 22);
        due("lots of one behind it", x.lots(1 << 24, 1, 0), BAD);
    }

    private static void looks() {
        Check.sentence("PAPER (0 .. 3), INK (0 .. 3), SIZE (1 .. 99)");
        for (int paper = 0; paper <= 4; paper++) {
            for (int ink = 0; ink <= 9; ink++) {
                for (int size : new int[] {0, 1, 99}) {
                    MudLibrary x = new MudLibrary();
                    int look = 1000 * paper + 100 * ink + size;
                    boolean is = paper <= 3 && ink <= 3 && size >= 1;
                    due("book(" + look + ", 0)", x.book(look, 0), is ? 0 : BAD);
                    due("BOOKS behind book(" + look + ", 0)", x.count(1), is ? 1 : 0);
                    due("PAPER of " + look, x.bookTold(0, 1), is ? paper : BAD);
                    due("INK of " + look, x.bookTold(0, 2), is ? ink : BAD);
                    due("SIZE of " + look, x.bookTold(0, 3), is ? size : BAD);
                }
            }
        }
        for (int look : new int[] {-1, -99, -100, -101, -901, -999, -1001, 10001, 11111, LOW, LOW + 1, HIGH}) {
            due("book(" + look + ", 0)", new MudLibrary().book(look, 0), BAD);
        }
    }

    private static void worths() {
        Check.sentence("WORTH (0 .. 999)");
        MudLibrary x = new MudLibrary();
        due("-1", x.book(1, -1), BAD);
        due("1000", x.book(1, 1000), BAD);
        due("LOW", x.book(1, LOW), BAD);
        due("HIGH", x.book(1, HIGH), BAD);
        due("BOOKS", x.count(1), 0);
        due("0", x.book(1, 0), 0);
        due("999", x.book(1, 999), 1);
        due("WORTH 0", x.bookTold(0, 4), 0);
        due("WORTH 999", x.bookTold(1, 4), 999);
    }

    private static void startOfBooks() {
        Check.sentence("MOULD and HARM (0 at first)");
        MudLibrary x = Check.withBooks(1, 10);
        x.pass(40);
        x.book(10, 10);
        due("MOULD of the new one", x.bookTold(1, 5), 0);
        due("HARM of the new one", x.bookTold(1, 6), 0);
        due("STATE of the new one", x.bookTold(1, 0), WET);
        due("MOULD of the old one", x.bookTold(0, 5), 120);
        due("HARM of the old one", x.bookTold(0, 6), 21);
    }

    private static void toldNumbers() {
        Check.sentence("Of a BOOK: 0 STATE .. 11 by how much HARM grows. BAD");
        MudLibrary x = Check.withBooks(2, 10);
        for (int what : new int[] {-1, 12, LOW, HIGH}) {
            due("bookTold(0, " + what + ")", x.bookTold(0, what), BAD);
            due("bookTold(2, " + what + ")", x.bookTold(2, what), BAD);
        }
        for (int book : new int[] {-1, 2, 24, LOW, HIGH}) {
            for (int what = 0; what <= 11; what++) {
                due("bookTold(" + book + ", " + what + ")", x.bookTold(book, what), BAD);
            }
            due("left(" + book + ")", x.left(book), BAD);
            due("move(" + book + ", 3)", x.move(book, DRYING), BAD);
            due("says(" + book + ", 0)", x.says(book, 0), NO);
            due("lost(" + book + ")", x.lost(book), book == -1 ? 0 : NO);
        }
    }

    private static void since() {
        Check.sentence("SINCE: the HOUR in which it came to be so");
        MudLibrary x = new MudLibrary();
        x.pass(3);
        x.book(10, 10);
        due("as it came", x.bookTold(0, 7), 3);
        x.pass(48);
        due("a BLOCK", x.bookTold(0, 7), 51);
        x.pass(5);
        x.move(0, FROZEN);
        due("FROZEN", x.bookTold(0, 7), 56);
        x.pass(5);
        due("a refused one", x.move(0, WASHED), STATE);
        due("stays", x.bookTold(0, 7), 56);
        x.move(0, WET);
        due("WET again", x.bookTold(0, 7), 61);
        x.pass(1);
        x.move(0, DRYING);
        due("DRYING", x.bookTold(0, 7), 62);
        x.pass(71);
        x.move(0, WASHED);
        due("WASHED", x.bookTold(0, 7), 133);
        x.pass(100);
        due("DONE", x.bookTold(0, 7), 229);
    }

    private static void mouldGrows() {
        Check.sentence("MOULD grows an HOUR by: DONE 0; WET 2, and HEAT by 10 more; FROZEN 0; DRYING 1; BLOCK twice, 5 more");
        for (int state = DONE; state <= WASHED; state++) {
            MudLibrary x = in(state, 10);
            for (int heat = 0; heat <= 40; heat++) {
                x.set(0, heat);
                int wet = 2 + heat / 10;
                int[] grows = {0, wet, 0, 1, 2 * wet + 5, 0};
                due("STATE " + state + " at HEAT " + heat, x.bookTold(0, 10), grows[state]);
                int rest = 99 - x.bookTold(0, 5);
                long left = x.bookTold(0, 5) >= 100 ? 0 : grows[state] == 0 ? NONE : rest / grows[state] + 1;
                due("left of STATE " + state + " at HEAT " + heat, x.left(0), left);
            }
        }
        Check.sentence("Quotients are cut");
        MudLibrary x = in(WET, 10);
        int[][] growth = {{0, 2}, {9, 2}, {10, 3}, {19, 3}, {20, 4}, {29, 4}, {30, 5}, {39, 5}, {40, 6}};
        for (int[] g : growth) {
            x.set(0, g[0]);
            due("WET at HEAT " + g[0], x.bookTold(0, 10), g[1]);
        }
    }

    private static void mouldGrowsInHours() {
        Check.sentence("MOULD grows (an HOUR goes by)");
        int[] atHeat0 = {0, 2, 0, 1, 9, 0};
        int[] atHeat19 = {0, 3, 0, 1, 11, 0};
        int[] atHeat40 = {0, 6, 0, 1, 17, 0};
        for (int state = DONE; state <= WASHED; state++) {
            MudLibrary x = in(state, 10);
            int mould = x.bookTold(0, 5);
            x.set(0, 0);
            x.pass(1);
            due("STATE " + state + " at HEAT 0", x.bookTold(0, 5), mould + atHeat0[state]);
            x.set(0, 19);
            x.pass(2);
            due("STATE " + state + " at HEAT 19", x.bookTold(0, 5), mould + atHeat0[state] + 2 * atHeat19[state]);
            x.set(0, 40);
            x.pass(3);
            due("STATE " + state + " at HEAT 40", x.bookTold(0, 5),
                mould + atHeat0[state] + 2 * atHeat19[state] + 3 * atHeat40[state]);
        }
    }

    private static void harmFrom100() {
        Check.sentence("HARM grows an HOUR, if MOULD is 100 or more");
        MudLibrary x = in(WET, 10);
        x.pass(33);
        due("MOULD 99", x.bookTold(0, 5), 99);
        due("no HARM by 99", x.bookTold(0, 6), 0);
        x.move(0, DRYING);
        x.pass(1);
        due("MOULD 100", x.bookTold(0, 5), 100);
        due("HARM by 100", x.bookTold(0, 6), 1);
        x.pass(1);
        due("HARM by 101", x.bookTold(0, 6), 2);
        x = in(WET, 10);
        x.pass(33);
        x.move(0, DRYING);
        x.move(0, WASHED);
        x.pass(95);
        due("WASHED stays at 99", x.bookTold(0, 5), 99);
        due("no HARM of a WASHED one by 99", x.bookTold(0, 6), 0);
        x = in(WET, 10);
        x.pass(33);
        x.move(0, DRYING);
        x.pass(1);
        x.move(0, WASHED);
        x.pass(10);
        due("WASHED stays at 100", x.bookTold(0, 5), 100);
        due("HARM of a WASHED one by 100", x.bookTold(0, 6), 11);
    }

    private static void harmByMouldAsItIsThen() {
        Check.sentence("MOULD grows; then HARM, by MOULD as it is then");
        MudLibrary x = in(WET, 10);
        x.pass(33);
        x.pass(1);
        due("MOULD 102 in this HOUR", x.bookTold(0, 5), 102);
        due("HARM in this HOUR", x.bookTold(0, 6), 3);
        x = in(WET, 10);
        x.pass(34);
        due("HARM in one pass", x.bookTold(0, 6), 3);
        x = in(WET, 10);
        x.pass(35);
        due("HARM in one pass and one HOUR more", x.bookTold(0, 6), 6);
        x = in(WET, 10);
        x.set(0, 0);
        x.pass(48);
        due("MOULD of a BLOCK", x.bookTold(0, 5), 96);
        due("HARM of a BLOCK", x.bookTold(0, 6), 0);
        x.pass(1);
        due("MOULD 105 in this HOUR", x.bookTold(0, 5), 105);
        due("HARM of a BLOCK in this HOUR", x.bookTold(0, 6), 7);
    }

    private static void harmGrows() {
        Check.sentence("HARM grows: DONE 0; WET 3; FROZEN 0; DRYING 1; BLOCK 4 more than a WET one; WASHED as a DRYING one");
        int[] grows = {0, 3, 0, 1, 7, 1};
        for (int state = DONE; state <= WASHED; state++) {
            due("bookTold(0, 11) of STATE " + state, in(state, 10).bookTold(0, 11), grows[state]);
        }
        MudLibrary x = in(WET, 10);
        x.pass(40);
        int harm = 21;
        due("WET", x.bookTold(0, 6), harm);
        x.move(0, FROZEN);
        x.pass(100);
        due("FROZEN", x.bookTold(0, 6), harm);
        x.move(0, WET);
        x.pass(48);
        harm += 48 * 3;
        due("WET again", x.bookTold(0, 6), harm);
        x.pass(2);
        harm += 14;
        due("BLOCK", x.bookTold(0, 6), harm);
        x.move(0, DRYING);
        x.pass(10);
        harm += 10;
        due("DRYING", x.bookTold(0, 6), harm);
        x.move(0, WASHED);
        x.pass(96);
        harm += 96;
        due("WASHED", x.bookTold(0, 6), harm);
        x.pass(100);
        due("DONE", x.bookTold(0, 6), harm);
    }

    private static void costs() {
        Check.sentence("COST an HOUR: DONE 0; WET 0; FROZEN SIZE by 20, and 1; DRYING 2; BLOCK 0; WASHED 3 more");
        for (int size : new int[] {1, 19, 20, 21, 39, 40, 59, 60, 79, 80, 99}) {
            int[] cost = {0, 0, size / 20 + 1, 2, 0, 5};
            for (int state = DONE; state <= WASHED; state++) {
                due("STATE " + state + " of SIZE " + size, in(state, size).bookTold(0, 8), cost[state]);
            }
        }
        due("SIZE 19 by 20 is cut", in(FROZEN, 19).bookTold(0, 8), 1);
        due("SIZE 20 by 20", in(FROZEN, 20).bookTold(0, 8), 2);
        due("SIZE 99 by 20 is cut", in(FROZEN, 99).bookTold(0, 8), 5);
    }

    private static void costOfHours() {
        Check.sentence("COST is paid (COIN may go below 0)");
        int[] cost = {0, 0, 2, 2, 0, 5};
        for (int state = DONE; state <= WASHED; state++) {
            MudLibrary x = in(state, 20);
            x.set(3, 100);
            x.pass(1);
            due("STATE " + state + ", an HOUR", x.set(3, 7), 100 - cost[state]);
            x.pass(40);
            due("STATE " + state + ", 40 HOURS", x.set(3, 7), 7 - 40 * cost[state]);
        }
        MudLibrary x = in(DRYING, 20);
        x.set(3, 0);
        x.pass(100);
        due("72 HOURS of DRYING, the last with them", x.set(3, 0), -144);
        x = in(WASHED, 20);
        x.set(3, 0);
        x.pass(100);
        due("96 HOURS of WASHED, the last with them", x.set(3, 0), -480);
        x = Check.withBooks(3, 20);
        x.move(0, FROZEN);
        x.move(1, DRYING);
        x.pass(3);
        due("of all BOOKS", x.set(3, 0), -12);
    }

    private static void rooms() {
        Check.sentence("ROOM: DONE 0; WET SIZE; FROZEN SIZE; DRYING twice SIZE; BLOCK half of a WET one's, and 1; WASHED twice");
        for (int size : new int[] {1, 2, 3, 4, 50, 98, 99}) {
            int[] room = {0, size, size, 2 * size, size / 2 + 1, 2 * size};
            for (int state = DONE; state <= WASHED; state++) {
                MudLibrary x = in(state, size);
                due("STATE " + state + " of SIZE " + size, x.bookTold(0, 9), room[state]);
                due("count(13) of STATE " + state, x.count(13), state == FROZEN ? size : 0);
                due("count(14) of STATE " + state, x.count(14), state == DRYING || state == WASHED ? 2 * size : 0);
            }
        }
        due("half of 1 is cut", in(BLOCK, 1).bookTold(0, 9), 1);
        due("half of 99 is cut", in(BLOCK, 99).bookTold(0, 9), 50);
    }

    private static void mouldAtMost() {
        Check.sentence("MOULD and HARM are 1000 at most (MOULD)");
        MudLibrary x = in(BLOCK, 10);
        due("MOULD of the new BLOCK", x.bookTold(0, 5), 144);
        x.pass(77);
        due("77 HOURS", x.bookTold(0, 5), 991);
        x.pass(1);
        due("1002 is cut", x.bookTold(0, 5), 1000);
        x.pass(1);
        due("and stays", x.bookTold(0, 5), 1000);
        due("how much it grows is told still", x.bookTold(0, 10), 11);
        x.move(0, DRYING);
        x.pass(72);
        due("DRYING at 1000", x.bookTold(0, 5), 1000);
        x = in(BLOCK, 10);
        x.pass(77);
        x.move(0, DRYING);
        x.pass(8);
        due("999", x.bookTold(0, 5), 999);
        x.pass(1);
        due("just 1000", x.bookTold(0, 5), 1000);
        x.pass(1);
        due("1001 is cut", x.bookTold(0, 5), 1000);
        x = in(BLOCK, 10);
        x.pass(100);
        due("cut in one pass", x.bookTold(0, 5), 1000);
    }

    private static void harmAtMost() {
        Check.sentence("MOULD and HARM are 1000 at most (HARM)");
        MudLibrary x = in(BLOCK, 10);
        due("HARM of the new BLOCK", x.bookTold(0, 6), 45);
        Check.passAll(x, 136);
        due("136 HOURS", x.bookTold(0, 6), 997);
        x.pass(1);
        due("1004 is cut", x.bookTold(0, 6), 1000);
        x.pass(1);
        due("and stays", x.bookTold(0, 6), 1000);
        due("how much it grows is told still", x.bookTold(0, 11), 7);
        due("LOST by 1000", x.lost(0), 100);
        x = in(BLOCK, 10);
        Check.passAll(x, 136);
        x.move(0, DRYING);
        x.pass(2);
        due("999", x.bookTold(0, 6), 999);
        x.pass(1);
        due("just 1000", x.bookTold(0, 6), 1000);
        x.pass(1);
        due("1001 is cut", x.bookTold(0, 6), 1000);
    }

    private static void wetBecomesBlock() {
        Check.sentence("A WET one that has been so for 48 HOURS becomes a BLOCK (SINCE that HOUR)");
        MudLibrary x = new MudLibrary();
        x.pass(5);
        x.book(10, 10);
        x.pass(47);
        due("47 HOURS", x.bookTold(0, 0), WET);
        due("SINCE as it came", x.bookTold(0, 7), 5);
        x.pass(1);
        due("48 HOURS", x.bookTold(0, 0), BLOCK);
        due("SINCE", x.bookTold(0, 7), 53);
        due("MOULD grew as a WET one's in the last HOUR", x.bookTold(0, 5), 144);
        due("HARM grew as a WET one's in the last HOUR", x.bookTold(0, 6), 45);
        x.pass(1);
        due("MOULD grows as a BLOCK's in the next HOUR", x.bookTold(0, 5), 155);
        due("HARM grows as a BLOCK's in the next HOUR", x.bookTold(0, 6), 52);
    }

    private static void dryingBecomesDone() {
        Check.sentence("a DRYING one (not WASHED) that has been so for 72 becomes DONE");
        MudLibrary x = in(WET, 10);
        x.pass(5);
        x.move(0, DRYING);
        x.pass(71);
        due("71 HOURS", x.bookTold(0, 0), DRYING);
        due("MOULD", x.bookTold(0, 5), 86);
        x.pass(1);
        due("72 HOURS", x.bookTold(0, 0), DONE);
        due("SINCE", x.bookTold(0, 7), 77);
        due("MOULD grew in the last HOUR", x.bookTold(0, 5), 87);
        x.pass(1);
        due("MOULD grows no more", x.bookTold(0, 5), 87);
        x = in(WASHED, 10);
        x.pass(72);
        due("not WASHED", x.bookTold(0, 0), WASHED);
    }

    private static void washedBecomesDone() {
        Check.sentence("a WASHED one for 96, becomes DONE");
        MudLibrary x = in(DRYING, 10);
        x.pass(71);
        x.move(0, WASHED);
        x.pass(1);
        due("72 HOURS of both", x.bookTold(0, 0), WASHED);
        x.pass(94);
        due("95 HOURS", x.bookTold(0, 0), WASHED);
        x.pass(1);
        due("96 HOURS", x.bookTold(0, 0), DONE);
        due("SINCE", x.bookTold(0, 7), 71 + 96);
        due("MOULD of 71 HOURS of DRYING", x.bookTold(0, 5), 71);
    }

    private static void othersStay() {
        Check.sentence("A WET one .. becomes a BLOCK; a DRYING one .., a WASHED one .. becomes DONE (no others)");
        for (int state : new int[] {DONE, FROZEN, BLOCK}) {
            MudLibrary x = in(state, 10);
            int since = x.bookTold(0, 7);
            Check.passAll(x, 900);
            due("STATE " + state + " in 900 HOURS", x.bookTold(0, 0), state);
            due("SINCE of STATE " + state, x.bookTold(0, 7), since);
        }
    }

    private static void becomesInOneLongPass() {
        Check.sentence("An HOUR goes by (many in one pass)");
        for (int state = DONE; state <= WASHED; state++) {
            MudLibrary x = in(state, 33);
            MudLibrary y = in(state, 33);
            x.pass(100);
            for (int k = 0; k < 100; k++) {
                y.pass(1);
            }
            for (int what = 0; what <= 11; what++) {
                due("bookTold(0, " + what + ") of one that was " + state, x.bookTold(0, what), y.bookTold(0, what));
            }
            due("COIN of one that was " + state, x.set(3, 0), y.set(3, 0));
        }
    }

    private static void moved() {
        Check.sentence("MOVED: 2 from 1, 4; 3 from 1, 2, 4; 5 from 3; 1 from 2 (it thaws); 0 never");
        int[] from = {0, 1 << FROZEN, 1 << WET | 1 << BLOCK, 1 << WET | 1 << FROZEN | 1 << BLOCK, 0, 1 << DRYING};
        for (int before = DONE; before <= WASHED; before++) {
            for (int state = -1; state <= 6; state++) {
                MudLibrary x = in(before, 10);
                String call = "move(0, " + state + ") of STATE " + before;
                boolean is = state >= 0 && state <= 5;
                boolean can = is && (from[state] >> before & 1) == 1;
                due(call, x.move(0, state), can ? before : is ? STATE : BAD);
                due("STATE behind " + call, x.bookTold(0, 0), can ? state : before);
            }
        }
        MudLibrary x = in(WET, 10);
        due("BOOK -1", x.move(-1, DRYING), BAD);
        due("BOOK 1", x.move(1, DRYING), BAD);
        due("BAD ahead of STATE: BOOK", x.move(1, DONE), BAD);
        due("BAD ahead of STATE: STATE", x.move(0, 6), BAD);
    }

    private static void thaws() {
        Check.sentence("1 from 2 (it thaws)");
        MudLibrary x = in(BLOCK, 10);
        x.move(0, FROZEN);
        x.pass(10);
        due("thaws", x.move(0, WET), FROZEN);
        due("a BLOCK that was FROZEN is WET", x.bookTold(0, 0), WET);
        due("its ROOM", x.bookTold(0, 9), 10);
        x.set(1, 0);
        x.set(2, 0);
        x.pass(47);
        due("47 HOURS since then", x.bookTold(0, 0), WET);
        x.pass(1);
        due("48 HOURS since then", x.bookTold(0, 0), BLOCK);
        x = in(FROZEN, 10);
        x.set(1, 0);
        due("no ROOM is asked of one that thaws", x.move(0, WET), FROZEN);
    }

    private static void freezers() {
        Check.sentence("FREEZERS hold ROOM of FROZEN ones (200 at first): no more than that may come");
        MudLibrary x = new MudLibrary();
        for (int size : new int[] {99, 99, 2, 1}) {
            x.book(size, 0);
        }
        x.move(0, FROZEN);
        x.move(1, FROZEN);
        due("to 200", x.move(2, FROZEN), WET);
        due("to 201", x.move(3, FROZEN), FULL);
        due("it stays", x.bookTold(3, 0), WET);
        due("ROOM that is taken", x.count(13), 200);
        x.set(1, 201);
        due("to 201 of 201", x.move(3, FROZEN), WET);
        x = in(WET, 1);
        x.set(1, 0);
        due("none have room", x.move(0, FROZEN), FULL);
        x.set(1, 1);
        due("one has room", x.move(0, FROZEN), WET);
        x = in(BLOCK, 10);
        x.set(1, 9);
        due("a BLOCK comes with ROOM of a FROZEN one", x.move(0, FROZEN), FULL);
        x.set(1, 10);
        due("and has room", x.move(0, FROZEN), BLOCK);
    }

    private static void barns() {
        Check.sentence("BARNS of DRYING and WASHED ones (300 at first): no more than that may come");
        MudLibrary x = new MudLibrary();
        for (int size : new int[] {99, 50, 1, 1, 1}) {
            x.book(size, 0);
        }
        due("to 198", x.move(0, DRYING), WET);
        due("WASHED", x.move(0, WASHED), DRYING);
        due("to 298", x.move(1, DRYING), WET);
        due("to 300", x.move(2, DRYING), WET);
        due("to 302", x.move(3, DRYING), FULL);
        due("it stays", x.bookTold(3, 0), WET);
        due("ROOM that is taken", x.count(14), 300);
        x.set(2, 301);
        due("to 302 of 301", x.move(3, DRYING), FULL);
        x.set(2, 302);
        due("to 302 of 302", x.move(3, DRYING), WET);
        x.set(2, 0);
        due("none have room", x.move(4, DRYING), FULL);
        x.set(2, 303);
        due("to 304 of 303", x.move(4, DRYING), FULL);
    }

    private static void toldToHoldLess() {
        Check.sentence("BOOKS that are there may be more, if they are told to hold less");
        MudLibrary x = Check.withBooks(5, 40);
        x.move(0, FROZEN);
        x.move(1, FROZEN);
        x.move(2, DRYING);
        x.move(3, DRYING);
        due("FREEZERS", x.set(1, 79), 200);
        due("BARNS", x.set(2, 159), 300);
        x.pass(1);
        due("FROZEN ones stay", x.count(13), 80);
        due("DRYING ones stay", x.count(14), 160);
        due("none comes to FREEZERS", x.move(4, FROZEN), FULL);
        due("none comes to BARNS", x.move(4, DRYING), FULL);
        due("one leaves", x.move(0, WET), FROZEN);
        due("39 are free, 40 are asked", x.move(0, FROZEN), FULL);
        x.set(1, 80);
        due("40 are free", x.move(0, FROZEN), WET);
    }

    private static void washedComesAnew() {
        Check.sentence("one that is WASHED comes anew, its own ROOM being free for that");
        MudLibrary x = Check.withBooks(2, 40);
        x.move(0, DRYING);
        x.move(1, DRYING);
        x.set(2, 160);
        due("in BARNS that are full", x.move(0, WASHED), DRYING);
        due("ROOM that is taken", x.count(14), 160);
        x.set(2, 159);
        due("in BARNS that hold less", x.move(1, WASHED), FULL);
        due("it stays", x.bookTold(1, 0), DRYING);
        x.pass(96);
        due("the others are DONE", x.count(14), 0);
        x = in(DRYING, 1);
        x.set(2, 1);
        due("alone, 2 of 1", x.move(0, WASHED), FULL);
        x.set(2, 2);
        due("alone, 2 of 2", x.move(0, WASHED), DRYING);
    }

    private static void otherRoomsAreFree() {
        Check.sentence("FREEZERS hold ROOM of FROZEN ones, BARNS of DRYING and WASHED ones (no others)");
        MudLibrary x = Check.withBooks(4, 10);
        x.set(1, 10);
        x.set(2, 20);
        due("FROZEN beside WET ones", x.move(0, FROZEN), WET);
        due("DRYING beside FROZEN and WET ones", x.move(1, DRYING), WET);
        due("no second FROZEN one", x.move(2, FROZEN), FULL);
        due("no second DRYING one", x.move(2, DRYING), FULL);
        x.pass(72);
        due("DRYING beside a DONE one and BLOCKS", x.move(2, DRYING), BLOCK);
        due("no second FROZEN one yet", x.move(3, FROZEN), FULL);
        due("the FROZEN one takes no ROOM of BARNS", x.count(14), 20);
    }

    private static void roomIsFreeAgain() {
        Check.sentence("FREEZERS hold ROOM of FROZEN ones (one that leaves frees it)");
        MudLibrary x = Check.withBooks(2, 10);
        x.set(1, 10);
        x.set(2, 20);
        x.move(0, FROZEN);
        due("full", x.move(1, FROZEN), FULL);
        due("from FREEZERS to BARNS", x.move(0, DRYING), FROZEN);
        due("free", x.move(1, FROZEN), WET);
        x.pass(71);
        due("BARNS are full till it is DONE", x.move(1, DRYING), FULL);
        x.pass(1);
        due("BARNS are free when it is DONE", x.move(1, DRYING), FROZEN);
    }

    private static void mayBeWashed() {
        Check.sentence("A BOOK may be WASHED just if may of THE RULE isn't 0 for it, and its INK isn't BARRED for its PAPER");
        String[] mays = {"0", "1", "-1", "5", "0-9999*9999*21", "256*256*256*256", "ink", "1-paper"};
        boolean[] may = {false, true, true, true, true, false, true, false};
        for (int k = 0; k < mays.length; k++) {
            MudLibrary x = Check.withBooks(1, 1310);
            Check.rule(x, "1", mays[k], "1");
            x.move(0, DRYING);
            due("may " + mays[k], x.move(0, WASHED), may[k] ? DRYING : STATE);
        }
        for (int ink = 0; ink <= 3; ink++) {
            MudLibrary x = Check.withBooks(1, 100 * ink + 10);
            x.move(0, DRYING);
            due("INK " + ink + " by TEXT 0", x.move(0, WASHED), ink < 2 ? DRYING : STATE);
        }
        MudLibrary x = Check.withBooks(2, 1110);
        x.move(0, DRYING);
        x.trial(1, 2, 1);
        x.trial(2, 1, 1);
        due("another PAPER, another INK ran", x.move(0, WASHED), DRYING);
        x.trial(1, 1, 1);
        x.pass(10);
        x.move(1, DRYING);
        due("BARRED by a TRIAL of an HOUR before", x.move(1, WASHED), STATE);
        x.set(2, 0);
        due("STATE ahead of FULL", x.move(1, WASHED), STATE);
        x.trial(1, 1, 0);
        due("FULL", x.move(1, WASHED), FULL);
        x.set(2, 300);
        due("BARRED no more", x.move(1, WASHED), DRYING);
    }

    private static void leftAtLeast() {
        Check.sentence("How many HOURS it takes at least till MOULD is 100 or more, if it stays in its STATE: 0: it is now");
        MudLibrary x = in(WET, 10);
        x.set(0, 30);
        due("20 times 5 is just 100", x.left(0), 20);
        x.pass(19);
        due("95", x.left(0), 1);
        x.pass(1);
        due("100", x.left(0), 0);
        x = in(DRYING, 10);
        due("longer than it dries", x.left(0), 100);
        x.pass(72);
        due("never, when it is DONE", x.left(0), NONE);
        x = in(WET, 10);
        x.set(0, 0);
        due("longer than it is WET", x.left(0), 50);
        x.pass(47);
        due("94", x.left(0), 3);
        x.pass(1);
        due("a BLOCK of 96", x.left(0), 1);
        Check.passAll(x, 900);
        due("1000", x.left(0), 0);
    }
}
