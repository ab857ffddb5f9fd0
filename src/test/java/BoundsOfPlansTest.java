/** Terms 3 and 4, sentence by sentence: the most of each, the last that counts, and which of like ones comes first. */
public final class BoundsOfPlansTest {
    private static final int NONE = -1, BAD = -2, STATE = -3, FULL = -4;
    private static final int LOW = Integer.MIN_VALUE, HIGH = Integer.MAX_VALUE;

    private BoundsOfPlansTest() {
    }

    public static void main(String[] args) {
        lotsBits();
        lotsHours();
        lotsTheFirstAtOnce();
        lotsTurnGoesBy();
        lotsEndOfHours();
        lotsByHeat();
        lotsOfAllBooks();
        lotsOfLikeOnes();
        lotsTheRuleAsItIs();
        lotsInThousands();
        lotsChangeNothing();
        hands();
        weeks();
        paceBits();
        leaves();
        gaps();
        agreesInMarks();
        agreesByTheFirstMark();
        joinedOneToOne();
        joinedOfLikeOnes();
        joinedMost();
        joinedSix();
        lists();
        thereWere();
        notBoth();
        missing();
        crates();
        chains();
        canBeFrom();
        kinds();
        yearsNumbers();
        coinStays();
        readersCount();
        likePlans();
        sixKinds();
        counts();
        sheets();
        cells();
        copies();
        copiesAsTheyWere();
        booksOfSheets();
        booksAhead();
        takenFor();
        Check.end("BoundsOfPlansTest");
    }

    private static void due(String call, long got, long want) {
        Check.due(call, got, want);
    }

    private static void lotsBits() {
        Check.sentence("LOTS: of told BOOKS (bits, 5 at most). BAD: bits (others, more than 5)");
        MudLibrary x = Check.withBooks(24, 1);
        due("5 of them", x.lots(0b11111, 1, 4), 4);
        due("5 others", x.lots(0b11111 << 19, 1, 4), 23);
        due("6 of them", x.lots(0b111111, 1, 4), BAD);
        due("all of them", x.lots((1 << 24) - 1, 1, 4), BAD);
        due("BOOK 24", x.lots(1 << 24, 1, -1), BAD);
        due("BOOK 31", x.lots(LOW, 1, -1), BAD);
        due("all bits", x.lots(-1, 1, -1), BAD);
        due("HIGH", x.lots(HIGH, 1, -1), BAD);
        due("one of them", x.lots(1 << 23, 1, 0), 23);
        due("none of them", x.lots(0, 1, -1), 0);
        due("the first of none", x.lots(0, 1, 0), NONE);
        due("others without BOOKS", new MudLibrary().lots(1, 1, -1), BAD);
        due("none without BOOKS", new MudLibrary().lots(0, 1, -1), 0);
        x = Check.withBooks(1, 1);
        due("just one behind the last", x.lots(2, 1, -1), BAD);
        Check.sentence("LOTS: i = -1: all LOST then; else the i-th BOOK of the order. NONE: none such");
        for (int i : new int[] {-2, 1, 5, LOW, HIGH}) {
            due("lots(1, 1, " + i + ")", x.lots(1, 1, i), NONE);
        }
        due("lots(1, 1, 0)", x.lots(1, 1, 0), 0);
        due("lots(1, 1, -1)", x.lots(1, 1, -1), 0);
    }

    private static void lotsHours() {
        Check.sentence("every n HOURS (1 .. 24). BAD: n; FULL: beyond HOUR 999");
        MudLibrary x = Check.withBooks(5, 1);
        for (int n : new int[] {0, 25, -1, LOW, HIGH}) {
            due("n " + n, x.lots(1, n, -1), BAD);
            due("n " + n + " of none", x.lots(0, n, -1), BAD);
        }
        due("n 1", x.lots(1, 1, 0), 0);
        due("n 24", x.lots(1, 24, 0), 0);
        Check.passAll(x, 879);
        due("5 times 24 to 999", x.lots(31, 24, 0), 0);
        x.pass(1);
        due("5 times 24 to 1000", x.lots(31, 24, 0), FULL);
        due("4 times 24", x.lots(15, 24, 0), 0);
        due("5 times 23", x.lots(31, 23, 0), 0);
        due("BAD ahead of FULL, bits", x.lots(32, 24, 0), BAD);
        due("BAD ahead of FULL, n", x.lots(31, 25, 0), BAD);
        due("FULL ahead of NONE", x.lots(31, 24, 5), FULL);
        due("BAD ahead of NONE", x.lots(31, 25, 5), BAD);
        x.pass(100);
        x.pass(19);
        due("HOUR", x.count(0), 999);
        due("one more HOUR", x.lots(1, 1, 0), FULL);
        due("no HOUR more", x.lots(0, 24, -1), x.lost(-1) / 1000);
    }

    private static void lotsTheFirstAtOnce() {
        Check.sentence("one is put to DRY every n HOURS, the first at once");
        MudLibrary x = new MudLibrary();
        x.book(10, 999);
        Check.rule(x, "1", "1", "9999*100");
        x.pass(33);
        // DRYING at once: MOULD 100 and HARM 1 in the first of two HOURS.
        due("one, at once", x.lots(1, 2, -1), 999900 * 2 / 100 / 1000);
        due("none, but as it is", x.lots(0, 2, -1), 0);
        x.book(10, 999);
        // The second one turns DRYING 24 HOURS later, at MOULD 72: 96 then.
        due("two", x.lots(3, 24, -1), 999900 * 48L / 100 / 1000);
        due("the first", x.lots(3, 24, 0), 0);
        due("the second", x.lots(3, 24, 1), 1);
    }

    private static void lotsTurnGoesBy() {
        Check.sentence("if it can be MOVED to 3 then (else it isn't; its turn goes by)");
        MudLibrary x = Check.withBooks(2, 10);
        x.pass(40);
        x.set(2, 19);
        // HARM 21 each, WET 8 HOURS more by 3, then a BLOCK 12 by 7.
        long lost = 2 * (21 + 24 + 84) * 99990L / 100;
        Check.rule(x, "1", "1", "9999*10");
        due("none has room, all HOURS go by", x.lots(3, 10, -1), lost / 1000);
        due("the least BOOK first", x.lots(3, 10, 0), 0);
        x.set(2, 20);
        // One DRIES 20 HOURS; the other one has no room in its turn.
        lost = (21 + 20 + 21 + 24 + 84) * 99990L / 100;
        due("one has room", x.lots(3, 10, -1), lost / 1000);
        for (int state : new int[] {3, 5}) {
            x = Check.withBooks(2, 10);
            x.move(0, 3);
            x.move(0, state);
            due("one is there already, its turn goes by", x.lots(3, 24, 0), 0);
        }
        x = Check.withBooks(2, 10);
        x.pass(33);
        x.move(0, 2);
        Check.rule(x, "1", "1", "9999");
        // A FROZEN one has no HARM till it is put to DRY: its turn is the last.
        due("a FROZEN one waits", x.lots(3, 1, 0), 1);
        due("a FROZEN one dries at last", x.lots(3, 1, 1), 0);
    }

    private static void lotsEndOfHours() {
        Check.sentence("BESIDE all HOURS then go by to n HOURS behind the last turn");
        MudLibrary x = Check.withBooks(3, 10);
        x.pass(48);
        x.set(2, 0);
        Check.rule(x, "1", "1", "9999*100");
        for (int n : new int[] {1, 2, 23, 24}) {
            for (int turns = 0; turns <= 3; turns++) {
                long harm = 45 + 7 * n * turns;
                due(turns + " turns of " + n, x.lots((1 << turns) - 1, n, -1), 3 * (999900 * harm / 100) / 1000);
            }
        }
    }

    private static void lotsByHeat() {
        Check.sentence("BESIDE all HOURS then go by (HEAT, ROOM as they are)");
        int[] heats = {0, 9, 10, 20, 30, 40};
        for (int heat : heats) {
            MudLibrary x = Check.withBooks(1, 10);
            Check.rule(x, "1", "1", "9999*100");
            x.set(0, 10);
            x.pass(20);
            x.move(0, 2);
            x.move(0, 1);
            x.set(0, heat);
            x.set(2, 0);
            // MOULD is 60: by 4 an HOUR it is 100 in 10 HOURS, by 5 in 8, by 6 (102) in 7; WET ones are harmed by 3.
            long harm = heat < 20 ? 0 : heat == 20 ? 3 : heat == 30 ? 9 : 12;
            due("HEAT " + heat, x.lots(1, 10, -1), 999900 * harm / 100 / 1000);
            x.set(2, 20);
            due("none by DRYING at HEAT " + heat, x.lots(1, 10, -1), 0);
        }
    }

    private static void lotsOfAllBooks() {
        Check.sentence("all LOST of all BOOKS together then is least");
        MudLibrary x = Check.withBooks(3, 10);
        x.pass(48);
        Check.rule(x, "1", "1", "9999*10");
        // One DRIES 5 HOURS, the two that aren't told are BLOCKS for 5.
        due("with those that aren't told", x.lots(2, 5, -1), (99990L * 50 / 100 + 2 * (99990L * 80 / 100)) / 1000);
        x = new MudLibrary();
        x.book(10, 1);
        x.book(50, 2);
        x.book(50, 2);
        x.book(50, 2);
        x.set(2, 100);
        x.pass(48);
        Check.rule(x, "1", "1", "worth*9999");
        // Just one of 1, 2, 3 has room, and none beside 0; that one first is worth more than two others.
        due("the room goes to one", x.lots(15, 10, 0), 1);
        due("then the least", x.lots(15, 10, 1), 0);
    }

    private static void lotsOfLikeOnes() {
        Check.sentence("of like ones the first BOOK least, then the second one, and so on");
        MudLibrary x = Check.withBooks(24, 1);
        int bits = 1 << 3 | 1 << 7 | 1 << 11 | 1 << 20 | 1 << 23;
        int[] order = {3, 7, 11, 20, 23};
        for (int i = 0; i < 5; i++) {
            due("all alike, " + i, x.lots(bits, 1, i), order[i]);
        }
        x = new MudLibrary();
        for (int worth : new int[] {5, 500, 5, 500, 5}) {
            x.book(1, worth);
        }
        x.pass(40);
        Check.rule(x, "1", "1", "worth*100");
        int[] due = {1, 3, 0, 2, 4};
        for (int i = 0; i < 5; i++) {
            due("two sorts, " + i, x.lots(31, 3, i), due[i]);
        }
    }

    private static void lotsTheRuleAsItIs() {
        Check.sentence("(THE RULE as it is)");
        MudLibrary x = new MudLibrary();
        x.book(10, 10);
        x.book(20, 10);
        x.pass(40);
        Check.rule(x, "1", "1", "size");
        due("by size", x.lots(3, 20, 0), 1);
        Check.rule(x, "1", "1", "30-size");
        due("by less size", x.lots(3, 20, 0), 0);
        Check.rule(x, "1", "1", "0-size");
        due("by values below 0 all are alike", x.lots(3, 20, 0), 0);
        due("and nothing is lost", x.lots(3, 20, -1), 0);
    }

    private static void lotsInThousands() {
        Check.sentence("all LOST then, in thousands (cut; 2147483647 at most)");
        MudLibrary x = new MudLibrary();
        x.book(1, 0);
        x.pass(36);
        due("HARM", x.bookTold(0, 6), 9);
        String[] values = {"9999+1112", "9999+1113", "9999+9999+2224", "9999+9999+2225"};
        long[] lost = {999, 1000, 1999, 2000};
        long[] thousands = {0, 1, 1, 2};
        for (int k = 0; k < 4; k++) {
            Check.rule(x, "1", "1", values[k]);
            due("LOST", x.lost(-1), lost[k]);
            due("in thousands", x.lots(0, 1, -1), thousands[k]);
        }
    }

    private static void lotsChangeNothing() {
        Check.sentence("Nothing changes");
        MudLibrary x = Check.withBooks(5, 30);
        MudLibrary y = Check.withBooks(5, 30);
        for (MudLibrary z : new MudLibrary[] {x, y}) {
            z.set(3, 50);
            z.move(0, 2);
            z.move(1, 3);
            z.pass(40);
        }
        due("the first", x.lots(31, 24, 0), 2);
        x.lots(31, 24, -1);
        for (int book = 0; book < 5; book++) {
            for (int what = 0; what <= 11; what++) {
                due("bookTold(" + book + ", " + what + ")", x.bookTold(book, what), y.bookTold(book, what));
            }
        }
        for (int what = 0; what <= 14; what++) {
            due("count(" + what + ")", x.count(what), y.count(what));
        }
        for (int what = 0; what <= 3; what++) {
            due("set(" + what + ", 1)", x.set(what, 1), y.set(what, 1));
        }
    }

    private static void hands() {
        Check.sentence("HANDS (6 at most, numbered from 0): a SKILL (0 .. 99), LEARNS (0 .. 9)");
        MudLibrary x = new MudLibrary();
        int[][] bad = {{-1, 0}, {100, 0}, {0, -1}, {0, 10}, {LOW, 0}, {0, HIGH}};
        for (int[] b : bad) {
            due("hand(" + b[0] + ", " + b[1] + ")", x.hand(b[0], b[1]), BAD);
        }
        due("none yet", x.count(6), 0);
        int[][] good = {{0, 0}, {99, 0}, {0, 9}, {99, 9}, {50, 5}, {1, 1}};
        for (int k = 0; k < 6; k++) {
            due("HAND " + k, x.hand(good[k][0], good[k][1]), k);
            due("its SKILL", x.pace(1 << k), good[k][0]);
        }
        due("HAND 6", x.hand(1, 1), FULL);
        for (int[] b : bad) {
            due("BAD ahead of FULL", x.hand(b[0], b[1]), BAD);
        }
        due("how many", x.count(6), 6);
    }

    private static void weeks() {
        Check.sentence("LEARNS a WEEK (168 HOURS, whole ones since told); 99 at most");
        MudLibrary x = new MudLibrary();
        x.hand(81, 9);
        x.pass(1);
        x.hand(80, 9);
        Check.passAll(x, 166);
        due("HOUR 167", x.pace(1), 81);
        x.pass(1);
        due("HOUR 168", x.pace(1), 90);
        due("the second one", x.pace(2), 80);
        x.pass(1);
        due("168 HOURS since the second was told", x.pace(2), 89);
        Check.passAll(x, 166);
        due("HOUR 335", x.pace(1), 90);
        x.pass(1);
        due("HOUR 336: just 99", x.pace(1), 99);
        x.pass(1);
        due("the second one: 98", x.pace(2), 98);
        Check.passAll(x, 168);
        due("99 at most", x.pace(1), 99);
        due("107 is cut", x.pace(2), 99);
        due("each for itself", x.pace(3), 198);
    }

    private static void paceBits() {
        Check.sentence("PACE of told HANDS (bits): all SKILLS together. BAD");
        MudLibrary x = new MudLibrary();
        due("none of none", x.pace(0), 0);
        due("one of none", x.pace(1), BAD);
        for (int k = 0; k < 6; k++) {
            x.hand(1 << k, 0);
            due("others with " + (k + 1), x.pace(1 << k + 1), BAD);
            due("others beside with " + (k + 1), x.pace((1 << k + 2) - 1), BAD);
        }
        for (int bits = 0; bits < 64; bits++) {
            due("pace(" + bits + ")", x.pace(bits), bits);
        }
        for (int bits : new int[] {64, 127, -1, LOW, HIGH}) {
            due("pace(" + bits + ")", x.pace(bits), BAD);
        }
    }

    private static void leaves() {
        Check.sentence("LEAVES (6 at most, numbered from 0): 4 marks (0 .. 9 each; base 10, the first mark the lowest)");
        MudLibrary x = Check.withBooks(1, 1);
        for (int marks : new int[] {-1, 10000, LOW, HIGH}) {
            due("leaf(" + marks + ")", x.leaf(marks), BAD);
        }
        due("none yet", x.count(7), 0);
        int[] good = {0, 9999, 1, 9000, 90, 100};
        for (int k = 0; k < 6; k++) {
            due("LEAF " + k, x.leaf(good[k]), k);
        }
        due("LEAF 6", x.leaf(0), FULL);
        due("BAD ahead of FULL", x.leaf(10000), BAD);
        due("BAD ahead of FULL", x.leaf(-1), BAD);
        due("how many", x.count(7), 6);
        x.gap(0, 10 + 11 * 10 + 121 * 10 + 1331 * 9);
        int[] ninth = {0, 1, 0, 1, 0, 0};
        for (int k = 0; k < 6; k++) {
            due("the fourth mark of LEAF " + k + " is 9", x.agrees(k, 0), ninth[k]);
        }
    }

    private static void gaps() {
        Check.sentence("GAPS (6 at most, numbered from 0): a BOOK, 4 marks (0 .. 9, or 10: not known; base 11)");
        MudLibrary x = Check.withBooks(2, 1);
        int[][] bad = {{-1, 0}, {2, 0}, {0, -1}, {0, 14641}, {LOW, 0}, {0, HIGH}, {0, LOW}};
        for (int[] b : bad) {
            due("gap(" + b[0] + ", " + b[1] + ")", x.gap(b[0], b[1]), BAD);
        }
        due("none yet", x.count(8), 0);
        int[][] good = {{0, 0}, {1, 14640}, {0, 10}, {0, 11}, {1, 1331}, {1, 1330}};
        for (int k = 0; k < 6; k++) {
            due("GAP " + k, x.gap(good[k][0], good[k][1]), k);
        }
        due("GAP 6", x.gap(0, 0), FULL);
        for (int[] b : bad) {
            due("BAD ahead of FULL", x.gap(b[0], b[1]), BAD);
        }
        due("how many", x.count(8), 6);
        due("without BOOKS", new MudLibrary().gap(0, 0), BAD);
        x.leaf(0);
        int[] agrees = {4, 0, 3, 3, 3, 1};
        for (int k = 0; k < 6; k++) {
            due("LEAF 0 with GAP " + k, x.agrees(0, k), agrees[k]);
        }
    }

    private static int marks(int base, int a, int b, int c, int d) {
        return a + base * (b + base * (c + base * d));
    }

    private static int agreement(int leaf, int gap) {
        MudLibrary x = Check.withBooks(1, 1);
        x.leaf(leaf);
        x.gap(0, gap);
        int agrees = x.agrees(0, 0);
        due("JOINED of these alone", x.joined(-1), agrees);
        due("the GAP of LEAF 0", x.joined(0), agrees == 0 ? NONE : 0);
        return agrees;
    }

    private static void agreesInMarks() {
        Check.sentence("AGREES a LEAF with a GAP in so many marks that are known and alike");
        for (int mask = 0; mask < 16; mask++) {
            int alike = Integer.bitCount(mask);
            int[] known = new int[4];
            for (int k = 0; k < 4; k++) {
                known[k] = (mask >> k & 1) == 1 ? k + 6 : 10;
            }
            int leaf = marks(10, 6, 7, 8, 9);
            due("known " + mask, agreement(leaf, marks(11, known[0], known[1], known[2], known[3])), alike);
        }
        due("marks 0", agreement(0, 0), 4);
        due("marks 9", agreement(9999, marks(11, 9, 9, 9, 9)), 4);
        due("none known", agreement(0, 14640), 0);
        for (int[] b : new int[][] {{-1, 0}, {1, 0}, {0, -1}, {0, 1}, {LOW, 0}, {0, HIGH}}) {
            MudLibrary x = Check.withBooks(1, 1);
            x.leaf(0);
            x.gap(0, 0);
            due("agrees(" + b[0] + ", " + b[1] + ")", x.agrees(b[0], b[1]), BAD);
        }
    }

    private static void agreesByTheFirstMark() {
        Check.sentence("not at all, if one that is known is not alike in the first mark (SIZE's)");
        due("all others alike", agreement(marks(10, 1, 2, 3, 4), marks(11, 2, 2, 3, 4)), 0);
        due("the first not known", agreement(marks(10, 1, 2, 3, 4), marks(11, 10, 2, 3, 4)), 3);
        due("the second unlike", agreement(marks(10, 1, 2, 3, 4), marks(11, 1, 3, 3, 4)), 3);
        due("the third unlike", agreement(marks(10, 1, 2, 3, 4), marks(11, 1, 2, 2, 4)), 3);
        due("the fourth unlike", agreement(marks(10, 1, 2, 3, 4), marks(11, 1, 2, 3, 3)), 3);
        due("just the first", agreement(marks(10, 1, 2, 3, 4), marks(11, 1, 1, 1, 1)), 1);
        due("the first not known, no other alike", agreement(marks(10, 0, 2, 3, 4), marks(11, 10, 1, 1, 1)), 0);
    }

    private static void join(MudLibrary x, int most, int... gapsOfLeaves) {
        due("all marks", x.joined(-1), most);
        for (int leaf = 0; leaf < gapsOfLeaves.length; leaf++) {
            due("joined(" + leaf + ")", x.joined(leaf), gapsOfLeaves[leaf]);
        }
    }

    private static void joinedOneToOne() {
        Check.sentence("each LEAF to one GAP at most and each GAP to one LEAF at most (that agree in none aren't joined)");
        MudLibrary x = Check.withBooks(1, 1);
        join(x, 0);
        x.gap(0, 0);
        due("a GAP without LEAVES", x.joined(-1), 0);
        due("joined(0) without LEAVES", x.joined(0), BAD);
        x.leaf(0);
        x.leaf(0);
        join(x, 4, 0, NONE);
        x.gap(0, 14640);
        join(x, 4, 0, NONE);
        x.gap(0, marks(11, 10, 10, 10, 0));
        join(x, 5, 0, 2);
        x.gap(0, marks(11, 1, 0, 0, 0));
        join(x, 5, 0, 2);
        for (int leaf : new int[] {-2, 2, 6, LOW, HIGH}) {
            due("joined(" + leaf + ")", x.joined(leaf), BAD);
        }
    }

    private static void joinedOfLikeOnes() {
        Check.sentence("of like ones LEAF 0 has the least GAP (none comes behind all), then LEAF 1, and so on");
        MudLibrary x = Check.withBooks(1, 1);
        x.leaf(1111);
        x.leaf(1111);
        x.gap(0, marks(11, 2, 2, 2, 2));
        x.gap(0, marks(11, 1, 1, 10, 10));
        join(x, 2, 1, NONE);
        x.gap(0, marks(11, 10, 10, 1, 1));
        join(x, 4, 1, 2);
        x.gap(0, marks(11, 1, 10, 10, 1));
        join(x, 4, 1, 2);
        x.gap(0, marks(11, 1, 1, 1, 10));
        join(x, 5, 1, 4);
        x.leaf(1112);
        // LEAF 2 agrees with GAP 0 in 1 mark, with GAP 2 in 2; the others are for LEAF 0 and 1.
        join(x, 7, 1, 4, 2);
    }

    private static void joinedMost() {
        Check.sentence("so that most marks agree together");
        MudLibrary x = Check.withBooks(1, 1);
        x.leaf(marks(10, 1, 2, 3, 4));
        x.leaf(marks(10, 1, 2, 3, 5));
        x.gap(0, marks(11, 1, 2, 3, 10));
        x.gap(0, marks(11, 1, 2, 10, 4));
        // LEAF 0 takes GAP 1 (3) so that LEAF 1 has GAP 0 (3): 6; the other way 3 and 2.
        join(x, 6, 1, 0);
        x = Check.withBooks(1, 1);
        x.leaf(marks(10, 5, 5, 5, 5));
        x.leaf(marks(10, 5, 5, 5, 5));
        x.leaf(marks(10, 5, 0, 0, 0));
        x.gap(0, marks(11, 5, 10, 10, 10));
        join(x, 1, 0, NONE, NONE);
        x.gap(0, marks(11, 5, 0, 5, 5));
        // GAP 1: 3 with LEAF 0 and 1, 2 with LEAF 2; GAP 0: 1 with each.
        join(x, 4, 0, 1, NONE);
        x = Check.withBooks(1, 1);
        x.leaf(9999);
        x.leaf(1111);
        x.leaf(9999);
        x.leaf(2222);
        x.gap(0, marks(11, 1, 1, 10, 10));
        x.gap(0, marks(11, 2, 2, 2, 10));
        // LEAF 0 and 2 have none, those behind them do.
        join(x, 5, NONE, 0, NONE, 1);
    }

    private static void joinedSix() {
        Check.sentence("LEAVES (6 at most) .. GAPS (6 at most): JOINED");
        MudLibrary x = Check.withBooks(1, 1);
        for (int k = 0; k < 6; k++) {
            x.leaf(marks(10, k, k, k, k));
            x.gap(0, marks(11, 5 - k, 5 - k, 5 - k, 5 - k));
        }
        join(x, 24, 5, 4, 3, 2, 1, 0);
        x = Check.withBooks(1, 1);
        for (int k = 0; k < 6; k++) {
            x.leaf(0);
            x.gap(0, 0);
        }
        join(x, 24, 0, 1, 2, 3, 4, 5);
        x = Check.withBooks(1, 1);
        for (int k = 0; k < 6; k++) {
            x.leaf(0);
            x.gap(0, marks(11, 10, 10, 10, k == 5 ? 0 : 1));
        }
        join(x, 1, 5, NONE, NONE, NONE, NONE, NONE);
    }

    private static void lists() {
        Check.sentence("LISTS (20 at most): of a PAPER there were at least a and at most b BOOKS (0 .. 9999 each)");
        MudLibrary x = new MudLibrary();
        int[][] bad = {{-1, 0, 0}, {4, 0, 0}, {0, -1, 0}, {0, 10000, 0}, {0, 0, -1}, {0, 0, 10000}, {LOW, 0, 0},
            {0, HIGH, 0}, {0, 0, LOW}};
        for (int[] b : bad) {
            due("list(" + b[0] + ", " + b[1] + ", " + b[2] + ")", x.list(b[0], b[1], b[2]), BAD);
        }
        due("none yet", x.count(9), 0);
        due("0 and 0", x.list(0, 0, 0), 1);
        due("9999 and 9999", x.list(1, 9999, 9999), 2);
        due("a above b", x.list(2, 9999, 0), 3);
        for (int k = 4; k <= 20; k++) {
            due("LIST " + k, x.list(3, k, 9999 - k), k);
        }
        due("LIST 21", x.list(3, 9000, 0), FULL);
        for (int[] b : bad) {
            due("BAD ahead of FULL", x.list(b[0], b[1], b[2]), BAD);
        }
        due("how many", x.count(9), 20);
        due("the least of PAPER 3", x.were(3, 0, 0), 20);
        due("the most of PAPER 3", x.were(3, 0, 1), 9979);
        due("the least of PAPER 1", x.were(1, 0, 0), 9999);
        due("the most of PAPER 0", x.were(0, 0, 1), 0);
    }

    private static void thereWere() {
        Check.sentence("THERE WERE, as KNOWN in an HOUR: the greatest a, the least b of all told by then (0 and 9999 without any)");
        MudLibrary x = new MudLibrary();
        for (int paper = 0; paper <= 3; paper++) {
            due("the least of none", x.were(paper, 0, 0), 0);
            due("the most of none", x.were(paper, 0, 1), 9999);
        }
        x.pass(10);
        x.list(2, 30, 90);
        x.pass(1);
        x.list(2, 20, 80);
        x.list(2, 40, 95);
        int[][] due = {{9, 0, 9999}, {10, 30, 90}, {11, 40, 80}};
        for (int[] d : due) {
            due("the least in HOUR " + d[0], x.were(2, d[0], 0), d[1]);
            due("the most in HOUR " + d[0], x.were(2, d[0], 1), d[2]);
        }
        due("another PAPER", x.were(1, 11, 0), 0);
        for (int known : new int[] {-1, 12, LOW, HIGH}) {
            due("HOUR " + known, x.were(2, known, 0), BAD);
        }
        for (int paper : new int[] {-1, 4, LOW, HIGH}) {
            due("PAPER " + paper, x.were(paper, 0, 0), BAD);
        }
        for (int what : new int[] {-1, 4, LOW, HIGH}) {
            due("what " + what, x.were(2, 0, what), BAD);
        }
    }

    private static void notBoth() {
        Check.sentence("not both, if the greatest a is above the least b. STATE: not both");
        MudLibrary x = new MudLibrary();
        x.list(0, 50, 60);
        x.pass(1);
        x.list(0, 10, 50);
        due("just one number, least", x.were(0, 1, 0), 50);
        due("just one number, most", x.were(0, 1, 1), 50);
        x.pass(1);
        x.list(0, 51, 9999);
        for (int what = 0; what <= 3; what++) {
            due("51 above 50, what " + what, x.were(0, 2, what), STATE);
        }
        due("the HOUR before", x.were(0, 1, 0), 50);
        due("BAD ahead of STATE, what", x.were(0, 2, 4), BAD);
        due("BAD ahead of STATE, HOUR", x.were(0, 3, 0), BAD);
        x.list(1, 9999, 0);
        due("one LIST alone", x.were(1, 2, 3), STATE);
        due("another PAPER", x.were(2, 2, 3), 9999);
    }

    private static void missing() {
        Check.sentence("MISSING: those less how many BOOKS of that PAPER there are now (0 at least)");
        MudLibrary x = Check.withBooks(3, 2010);
        x.book(10, 1);
        x.list(2, 2, 5);
        due("least: 2 less 3", x.were(2, 0, 2), 0);
        due("most: 5 less 3", x.were(2, 0, 3), 2);
        due("the least itself", x.were(2, 0, 0), 2);
        due("the most itself", x.were(2, 0, 1), 5);
        x.list(2, 4, 4);
        due("least: 4 less 3", x.were(2, 0, 2), 1);
        due("most: 4 less 3", x.were(2, 0, 3), 1);
        x.move(0, 3);
        x.pass(72);
        due("DONE ones are there", x.were(2, 0, 3), 1);
        x.book(2010, 1);
        due("BOOKS that are there now, LISTS as KNOWN", x.were(2, 0, 2), 0);
        due("just all", x.were(2, 0, 3), 0);
        x.book(2010, 1);
        due("more than there were", x.were(2, 0, 3), 0);
        due("of none: 9999 less 1", x.were(0, 0, 3), 9998);
        due("of none: 0 less 1", x.were(0, 0, 2), 0);
        due("of none: 9999 less none", x.were(1, 0, 3), 9999);
    }

    private static void crates() {
        Check.sentence("CRATES (20 at most, numbered from 0): came out in an HOUR by a DOOR (0 .. 3)");
        MudLibrary x = new MudLibrary();
        int[][] bad = {{-1, 0}, {1000, 0}, {0, -1}, {0, 4}, {LOW, 0}, {0, HIGH}};
        for (int[] b : bad) {
            due("crate(" + b[0] + ", " + b[1] + ")", x.crate(b[0], b[1]), BAD);
        }
        due("none yet", x.count(10), 0);
        for (int k = 0; k < 20; k++) {
            due("CRATE " + k, x.crate(k % 2 == 0 ? 0 : 999, k % 4), k);
        }
        due("CRATE 20", x.crate(0, 0), FULL);
        for (int[] b : bad) {
            due("BAD ahead of FULL", x.crate(b[0], b[1]), BAD);
        }
        due("how many", x.count(10), 20);
        due("from(19)", x.from(19), NONE);
        for (int crate : new int[] {-1, 20, LOW, HIGH}) {
            due("from(" + crate + ")", x.from(crate), BAD);
        }
        due("from(0) of none", new MudLibrary().from(0), BAD);
    }

    private static void chains() {
        Check.sentence("A CHAIN (40 tellings at most): a DOOR had SHELVES a .. b (0 .. 99) from an HOUR on ahead of another one");
        MudLibrary x = new MudLibrary();
        int[][] bad = {{-1, 1, 0}, {4, 1, 0}, {LOW, 1, 0}, {0, -1, 0}, {0, -1000, 0}, {0, 1000000, 0}, {0, 1000001, 0},
            {0, HIGH, 0}, {0, LOW, 0}, {0, 0, 0}, {0, 1001, 0}, {0, 1000, 0}, {0, 999999, 0}, {0, 999998, 0},
            {0, 1, -1}, {0, 1, 10000}, {0, 1, 10001}, {0, 1, HIGH}, {0, 1, LOW}, {0, 1, 100}, {0, 1, 9998}};
        for (int[] b : bad) {
            due("chain(" + b[0] + ", " + b[1] + ", " + b[2] + ")", x.chain(b[0], b[1], b[2]), BAD);
        }
        due("none yet", x.count(11), 0);
        due("from 0 to 1, SHELF 0", x.chain(0, 1, 0), 1);
        due("from 998 to 999, SHELF 99", x.chain(3, 998999, 9999), 2);
        due("from 0 to 999, all SHELVES", x.chain(1, 999, 99), 3);
        due("SHELVES 98 .. 99", x.chain(2, 1002, 9899), 4);
        for (int k = 5; k <= 40; k++) {
            due("telling " + k, x.chain(k % 4, 1002, 1020), k);
        }
        due("telling 41", x.chain(0, 1, 0), FULL);
        for (int[] b : bad) {
            due("BAD ahead of FULL", x.chain(b[0], b[1], b[2]), BAD);
        }
        due("how many", x.count(11), 40);
    }

    private static void canBeFrom() {
        Check.sentence("CAN BE FROM: SHELVES of all tellings of its DOOR that hold its HOUR: the greatest a, the least b; none, ..");
        MudLibrary x = new MudLibrary();
        int[] hours = {0, 4, 5, 6, 9, 10, 998, 999};
        for (int hour : hours) {
            x.crate(hour, 2);
        }
        x.chain(2, 5010, 2040);
        int[] due = {NONE, NONE, 2040, 2040, 2040, NONE, NONE, NONE};
        for (int k = 0; k < hours.length; k++) {
            due("a CRATE of HOUR " + hours[k], x.from(k), due[k]);
        }
        x.chain(2, 999, 3099);
        int[] of2 = {3099, 3099, 3040, 3040, 3040, 3099, 3099, NONE};
        for (int k = 0; k < hours.length; k++) {
            due("a CRATE of HOUR " + hours[k] + " by two tellings", x.from(k), of2[k]);
        }
        x.chain(2, 5006, 4099);
        due("just one SHELF", x.from(2), 4040);
        x.chain(2, 5006, 4199);
        due("41 above 40", x.from(2), NONE);
        due("not in HOUR 6", x.from(3), 3040);
        x.chain(3, 1, 0);
        due("another DOOR", x.from(0), 3099);
        x.crate(0, 3);
        due("SHELF 0 alone", x.from(8), 0);
        x.chain(3, 1, 99);
        due("SHELF 0 still", x.from(8), 0);
        x.crate(998, 1);
        x.chain(1, 998999, 9999);
        due("SHELF 99 alone", x.from(9), 9999);
        x.crate(0, 0);
        x.chain(0, 1, 1020);
        x.chain(0, 1, 30);
        due("the greatest a of one, the least b of it", x.from(10), 1020);
        x.chain(0, 1, 1515);
        due("one within", x.from(10), 1515);
    }

    private static void kinds() {
        Check.sentence("KINDS (6 at most, numbered from 0): coin (1 .. 999) and readers (0 .. 999) a YEAR");
        MudLibrary x = new MudLibrary();
        int[][] bad = {{0, 0}, {1000, 0}, {-1, 0}, {1, -1}, {1, 1000}, {LOW, 0}, {1, HIGH}};
        for (int[] b : bad) {
            due("kind(" + b[0] + ", " + b[1] + ")", x.kind(b[0], b[1]), BAD);
        }
        due("none yet", x.count(12), 0);
        int[][] good = {{1, 0}, {999, 999}, {1, 999}, {999, 0}, {2, 1}, {2, 1}};
        for (int k = 0; k < 6; k++) {
            due("KIND " + k, x.kind(good[k][0], good[k][1]), k);
        }
        due("KIND 6", x.kind(1, 1), FULL);
        for (int[] b : bad) {
            due("BAD ahead of FULL", x.kind(b[0], b[1]), BAD);
        }
        due("how many", x.count(12), 6);
    }

    private static void plan(MudLibrary x, int n, int coin, int readers, int spent, int... yearsOfKinds) {
        String of = n + " YEARS with " + coin + ": ";
        due(of + "all readers", x.years(n, coin, -1), readers);
        due(of + "all coin", x.years(n, coin, -2), spent);
        for (int kind = 0; kind < yearsOfKinds.length; kind++) {
            due(of + "KIND " + kind, x.years(n, coin, kind), yearsOfKinds[kind]);
        }
        due(of + "no such KIND", x.years(n, coin, yearsOfKinds.length), NONE);
    }

    private static void yearsNumbers() {
        Check.sentence("n YEARS (1 .. 4), coin (0 .. 9999) a YEAR. BAD: n, coin; NONE: never; no such KIND");
        MudLibrary x = new MudLibrary();
        x.kind(1, 1);
        for (int n : new int[] {0, 5, -1, LOW, HIGH}) {
            due("n " + n, x.years(n, 1, 0), BAD);
            due("BAD ahead of NONE, n " + n, x.years(n, 1, 1), BAD);
        }
        for (int coin : new int[] {-1, 10000, LOW, HIGH}) {
            due("coin " + coin, x.years(1, coin, 0), BAD);
            due("BAD ahead of NONE, coin " + coin, x.years(1, coin, -3), BAD);
        }
        for (int i : new int[] {-3, 1, 6, LOW, HIGH}) {
            due("i " + i, x.years(1, 1, i), NONE);
        }
        plan(x, 1, 0, 0, 0, NONE);
        plan(x, 1, 1, 1, 1, 0);
        plan(x, 4, 0, 0, 0, NONE);
        plan(x, 4, 9999, 4, 1, 0);
        plan(new MudLibrary(), 4, 9999, 0, 0);
        plan(new MudLibrary(), 1, 0, 0, 0);
    }

    private static void coinStays() {
        Check.sentence("In each of n YEARS told coin comes (what isn't spent stays for the next one)");
        MudLibrary x = new MudLibrary();
        x.kind(40, 7);
        plan(x, 4, 9, 0, 0, NONE);
        plan(x, 4, 10, 7, 40, 3);
        plan(x, 4, 13, 7, 40, 3);
        plan(x, 4, 14, 14, 40, 2);
        plan(x, 3, 13, 0, 0, NONE);
        plan(x, 4, 20, 21, 40, 1);
        plan(x, 4, 39, 21, 40, 1);
        plan(x, 4, 40, 28, 40, 0);
        x.kind(10, 1);
        plan(x, 4, 12, 7, 40, 3, NONE);
        plan(x, 4, 13, 7 + 4, 50, 3, 0);
    }

    private static void readersCount() {
        Check.sentence("readers of a KIND count in that YEAR and all behind it, of the n");
        MudLibrary x = new MudLibrary();
        x.kind(5, 100);
        x.kind(5, 30);
        for (int n = 1; n <= 4; n++) {
            plan(x, n, 5, 100 * n + 30 * (n - 1), n == 1 ? 5 : 10, 0, n == 1 ? NONE : 1);
            plan(x, n, 10, 130 * n, 10, 0, 0);
        }
    }

    private static void likePlans() {
        Check.sentence("of like ones the least coin spent; of like ones KIND 0 in the earliest YEAR (never behind all), then KIND 1");
        MudLibrary x = new MudLibrary();
        x.kind(1, 0);
        plan(x, 4, 9999, 0, 0, NONE);
        x.kind(3, 5);
        x.kind(2, 5);
        plan(x, 1, 3, 5, 2, NONE, NONE, 0);
        plan(x, 1, 5, 10, 5, NONE, 0, 0);
        x = new MudLibrary();
        x.kind(2, 5);
        x.kind(2, 5);
        x.kind(2, 5);
        plan(x, 1, 2, 5, 2, 0, NONE, NONE);
        plan(x, 2, 2, 15, 4, 0, 1, NONE);
        plan(x, 3, 2, 30, 6, 0, 1, 2);
        plan(x, 2, 4, 25, 6, 0, 0, 1);
        x = new MudLibrary();
        x.kind(4, 6);
        x.kind(2, 3);
        x.kind(2, 3);
        // KIND 0 in YEAR 0 and both others in YEAR 1, or the other way: like readers, like coin.
        plan(x, 2, 4, 12 + 6, 8, 0, 1, 1);
        x = new MudLibrary();
        x.kind(4, 4);
        x.kind(2, 2);
        x.kind(6, 6);
        plan(x, 1, 6, 6, 6, 0, 0, NONE);
    }

    private static void sixKinds() {
        Check.sentence("THE PLAN: the most readers in all (6 KINDS, 4 YEARS)");
        MudLibrary x = new MudLibrary();
        for (int k = 0; k < 6; k++) {
            x.kind(999, 999);
        }
        plan(x, 4, 9999, 6 * 4 * 999, 5994, 0, 0, 0, 0, 0, 0);
        plan(x, 4, 998, 999 * 6, 2997, 1, 2, 3, NONE, NONE, NONE);
        plan(x, 4, 999, 999 * 10, 3996, 0, 1, 2, 3, NONE, NONE);
        plan(x, 4, 1499, 999 * 14, 5994, 0, 1, 1, 2, 3, 3);
        x = new MudLibrary();
        for (int k = 0; k < 6; k++) {
            x.kind(1 << k, 1 << k);
        }
        plan(x, 1, 42, 42, 42, NONE, 0, NONE, 0, NONE, 0);
        plan(x, 1, 63, 63, 63, 0, 0, 0, 0, 0, 0);
        plan(x, 1, 62, 62, 62, NONE, 0, 0, 0, 0, 0);
    }

    private static void counts() {
        Check.sentence("count: 0 HOUR, 1 BOOKS, .. 14 DRYING and WASHED ones. BAD");
        MudLibrary x = new MudLibrary();
        for (int what = 0; what <= 14; what++) {
            due("count(" + what + ") of a new one", x.count(what), what == 2 ? 1 : 0);
        }
        for (int what : new int[] {-1, 15, LOW, HIGH}) {
            due("count(" + what + ")", x.count(what), BAD);
        }
    }

    private static MudLibrary withSheets() {
        MudLibrary x = new MudLibrary();
        x.sheet(0, 0, 4);
        x.sheet(1, 1, 4);
        x.sheet(2, 2, 4);
        return x;
    }

    private static void sheets() {
        Check.sentence("SHEETS 0 .. 3 are rows of numbers, or missing (as all are at first). BAD: no such SHEET, sort; n above 40; -14");
        MudLibrary x = new MudLibrary();
        for (int sheet = 0; sheet <= 3; sheet++) {
            due("missing at first: cell", x.cell(sheet, 0, 1), -11);
            due("missing at first: books", x.books(sheet, 0, 0, 1), -11);
            due("missing at first: copy", x.copy(sheet, 0, sheet, 0, 0), -11);
        }
        for (int sheet : new int[] {-1, 4, LOW, HIGH}) {
            due("sheet(" + sheet + ", 0, 1)", x.sheet(sheet, 0, 1), BAD);
            due("sheet(" + sheet + ", -1, 1)", x.sheet(sheet, -1, 1), BAD);
            due("BAD ahead of -14: sheet(" + sheet + ", 0, -1)", x.sheet(sheet, 0, -1), BAD);
        }
        for (int sort : new int[] {-2, 3, LOW, HIGH}) {
            due("sheet(0, " + sort + ", 1)", x.sheet(0, sort, 1), BAD);
            due("BAD ahead of -14: sheet(0, " + sort + ", -1)", x.sheet(0, sort, -1), BAD);
        }
        for (int sort = 0; sort <= 2; sort++) {
            due("n 41", x.sheet(0, sort, 41), BAD);
            due("n HIGH", x.sheet(0, sort, HIGH), BAD);
            due("n -1", x.sheet(0, sort, -1), -14);
            due("n LOW", x.sheet(0, sort, LOW), -14);
            due("it is missing still", x.cell(0, 0, 1), -11);
            due("n 0", x.sheet(0, sort, 0), 1);
            due("no item of 0", x.cell(0, 0, 1), -12);
            due("n 40", x.sheet(0, sort, 40), 1);
            due("item 39 of 40", x.cell(0, 39, 1), 1);
            due("item 40 of 40", x.cell(0, 40, 1), -12);
            due("refused", x.sheet(0, sort, 41), BAD);
            due("refused", x.sheet(0, sort, -1), -14);
            due("it stands", x.cell(0, 39, 1), 1);
            due("sort -1 with n " + (41 - 21 * sort), x.sheet(0, -1, 41 - 21 * sort), 1);
            due("missing again", x.cell(0, 0, 1), -11);
        }
        for (int n : new int[] {-1, 0, 41, LOW, HIGH}) {
            due("sort -1: n " + n + " does not matter", x.sheet(1, -1, n), 1);
        }
        Check.sentence("A SHEET becomes a row of n of a sort, all 0");
        x = withSheets();
        for (int i = 0; i < 4; i++) {
            x.cell(2, i, 5);
        }
        due("ahead of it", x.books(2, 2, 0, 2), 2);
        x.sheet(2, 2, 4);
        due("all 0", x.books(2, 2, 0, 2), 0);
        for (int i = 0; i < 4; i++) {
            x.cell(2, i, 5);
        }
        x.sheet(2, -1, 0);
        x.sheet(2, 0, 4);
        due("all 0 of another sort", x.books(2, 0, 0, 2), 0);
        for (int sort = 0; sort <= 2; sort++) {
            for (int n = 2; n <= 40; n += 38) {
                x = new MudLibrary();
                x.sheet(3, sort, n);
                x.cell(3, n - 2, 1);
                due("a BOOK by a row of " + n, x.books(3, sort, n - 2, 1), 1);
                due("its WORTH is 0", x.bookTold(0, 4), 0);
            }
        }
    }

    /** What item 0 of a SHEET is, told by the WORTH of a BOOK (0 .. 999), or NONE. */
    private static int item(int sort, int v) {
        MudLibrary x = withSheets();
        x.cell(sort, 0, 1);
        x.cell(sort, 1, v);
        return x.books(sort, sort, 0, 1) == 1 ? x.bookTold(0, 4) : NONE;
    }

    private static void cells() {
        Check.sentence("Item i of a SHEET becomes v (of bytes, shorts its lowest 8, 16 bits). -11; -12");
        int[] values = {0, 1, 127, 128, 129, 255, 256, 257, 383, 384, -1, -128, -129, -255, -256, 999, 1000, 32767, 32768,
            65535, 65536, 65537, 65536 + 999, 65536 + 1000, -65536, -65535, 1 << 24, HIGH, LOW, LOW + 7, 0x7fff0005};
        for (int v : values) {
            for (int sort = 0; sort <= 2; sort++) {
                int kept = sort == 0 ? (byte) v : sort == 1 ? (short) v : v;
                due("cell " + v + " of sort " + sort, item(sort, v), kept >= 0 && kept <= 999 ? kept : NONE);
            }
        }
        due("a byte of 255 is below 0", item(0, 255), NONE);
        due("a byte of 127", item(0, 127), 127);
        due("a byte of 128 is below 0", item(0, 128), NONE);
        due("a byte of -129", item(0, -129), 127);
        due("a byte of 256", item(0, 256), 0);
        due("a short of 65536 + 7", item(1, 65536 + 7), 7);
        due("a short of 256", item(1, 256), 256);
        due("an int of 65536 + 7", item(2, 65536 + 7), NONE);
        MudLibrary x = withSheets();
        for (int sheet = 0; sheet <= 2; sheet++) {
            for (int i : new int[] {-1, 4, 40, LOW, HIGH}) {
                due("cell(" + sheet + ", " + i + ", 1)", x.cell(sheet, i, 1), -12);
            }
            due("item 0", x.cell(sheet, 0, 1), 1);
            due("item 3", x.cell(sheet, 3, 1), 1);
        }
        for (int sheet : new int[] {-1, 4, LOW, HIGH}) {
            due("cell(" + sheet + ", 0, 1)", x.cell(sheet, 0, 1), BAD);
            due("BAD ahead of -12: cell(" + sheet + ", -1, 1)", x.cell(sheet, -1, 1), BAD);
        }
        due("-11 ahead of -12", x.cell(3, -1, 1), -11);
        due("-11 ahead of -12", x.cell(3, HIGH, 1), -11);
    }

    private static void copies() {
        Check.sentence("copy: BAD: no such SHEET; -11; -13: they are of unlike sorts; -12 (also with n below 0)");
        MudLibrary x = withSheets();
        x.sheet(3, 1, 6);
        for (int sheet : new int[] {-1, 4, LOW, HIGH}) {
            due("copy(" + sheet + ", 0, 0, 0, 1)", x.copy(sheet, 0, 0, 0, 1), BAD);
            due("copy(0, 0, " + sheet + ", 0, 1)", x.copy(0, 0, sheet, 0, 1), BAD);
        }
        for (int[] s : new int[][] {{0, 1}, {0, 2}, {1, 0}, {1, 2}, {2, 0}, {2, 1}}) {
            due("unlike sorts", x.copy(s[0], 0, s[1], 0, 1), -13);
            due("unlike sorts of none", x.copy(s[0], 0, s[1], 0, 0), -13);
            due("-13 ahead of -12", x.copy(s[0], 4, s[1], -1, -1), -13);
        }
        int[][] in = {{0, 0, 4}, {0, 2, 4}, {3, 5, 1}, {0, 5, 1}, {4, 0, 0}, {0, 6, 0}, {4, 6, 0}, {2, 4, 2}};
        for (int[] c : in) {
            due("copy(1, " + c[0] + ", 3, " + c[1] + ", " + c[2] + ")", x.copy(1, c[0], 3, c[1], c[2]), c[2]);
        }
        int[][] out = {{0, 0, 5}, {0, 3, 4}, {4, 0, 1}, {0, 6, 1}, {-1, 0, 1}, {0, -1, 1}, {0, 0, -1}, {5, 0, 0}, {0, 7, 0},
            {-1, 0, 0}, {0, -1, 0}, {1, 0, HIGH}, {0, 1, HIGH}, {HIGH, 0, 1}, {0, HIGH, 1}, {HIGH, HIGH, HIGH},
            {LOW, 0, LOW}, {0, 0, LOW}, {4, 6, -1}, {3, 0, 2}, {0, 5, 2}};
        for (int[] c : out) {
            due("copy(1, " + c[0] + ", 3, " + c[1] + ", " + c[2] + ")", x.copy(1, c[0], 3, c[1], c[2]), -12);
        }
        x.sheet(2, -1, 0);
        due("the first is missing", x.copy(2, 0, 0, 0, 1), -11);
        due("the other one is missing", x.copy(0, 0, 2, 0, 1), -11);
        due("-11 ahead of -12", x.copy(2, -1, 0, 9, -1), -11);
        due("BAD ahead of -11", x.copy(2, 0, 4, 0, 1), BAD);
        due("BAD ahead of -11", x.copy(-1, 0, 2, 0, 1), BAD);
    }

    private static void copiesAsTheyWere() {
        Check.sentence("n numbers of a SHEET, from item i on, come to another one's item j on (as they were)");
        for (int sort = 0; sort <= 2; sort++) {
            for (int i = 0; i <= 6; i++) {
                for (int j = 0; j <= 6; j++) {
                    copyOfSix(sort, i, j);
                }
            }
        }
        MudLibrary x = withSheets();
        x.sheet(3, 0, 2);
        x.cell(0, 2, 11);
        x.cell(0, 3, 22);
        due("of another SHEET", x.copy(0, 2, 3, 0, 2), 2);
        due("it has them", x.books(3, 0, 0, 1), 1);
        due("they stay in the first", x.books(0, 0, 2, 1), 1);
        due("SIZE", x.bookTold(0, 3), 11);
        due("WORTH", x.bookTold(0, 4), 22);
        x.cell(0, 2, 33);
        due("they are numbers of its own", x.books(3, 0, 0, 1), 1);
        due("SIZE", x.bookTold(2, 3), 11);
    }

    private static void copyOfSix(int sort, int i, int j) {
        int n = 6 - Math.max(i, j);
        MudLibrary x = new MudLibrary();
        x.sheet(2, sort, 6);
        int[] row = new int[6];
        for (int k = 0; k < 6; k++) {
            row[k] = k + 1;
            x.cell(2, k, k + 1);
        }
        int[] was = row.clone();
        for (int k = 0; k < n; k++) {
            row[j + k] = was[i + k];
        }
        due("copy(2, " + i + ", 2, " + j + ", " + n + ")", x.copy(2, i, 2, j, n), n);
        x.books(2, sort, 0, 3);
        for (int k = 0; k < 6; k++) {
            due("item " + k, x.bookTold(k / 2, 3 + k % 2), row[k]);
        }
    }

    private static void booksOfSheets() {
        Check.sentence("BOOKS by a SHEET that is taken for one of a sort. BAD: no such SHEET, sort, n (0 .. 20); -13; -11; -12");
        MudLibrary x = withSheets();
        for (int sheet : new int[] {-1, 4, LOW, HIGH}) {
            due("books(" + sheet + ", 0, 0, 1)", x.books(sheet, 0, 0, 1), BAD);
        }
        for (int sort : new int[] {-1, 3, LOW, HIGH}) {
            due("books(0, " + sort + ", 0, 1)", x.books(0, sort, 0, 1), BAD);
            due("books(3, " + sort + ", 0, 1)", x.books(3, sort, 0, 1), BAD);
        }
        for (int n : new int[] {-1, 21, LOW, HIGH}) {
            due("books(0, 0, 0, " + n + ")", x.books(0, 0, 0, n), BAD);
            due("BAD ahead of -13", x.books(0, 1, 0, n), BAD);
            due("BAD ahead of -11", x.books(3, 1, 0, n), BAD);
        }
        for (int sheet = 0; sheet <= 2; sheet++) {
            for (int sort = 0; sort <= 2; sort++) {
                due("books(" + sheet + ", " + sort + ", 0, 0)", x.books(sheet, sort, 0, 0), sort == sheet ? 0 : -13);
                due("books(" + sheet + ", " + sort + ", 0, 1)", x.books(sheet, sort, 0, 1), sort == sheet ? 0 : -13);
                due("-13 ahead of -12", x.books(sheet, sort, 4, 1), sort == sheet ? -12 : -13);
            }
            due("-11 of a missing one", x.books(3, sheet, 0, 0), -11);
            due("-11 ahead of -12", x.books(3, sheet, -1, 1), -11);
            for (int from : new int[] {-1, -2, 3, 4, LOW, HIGH, HIGH - 1}) {
                due("books(" + sheet + ", " + sheet + ", " + from + ", 1)", x.books(sheet, sheet, from, 1), -12);
            }
            due("n 2 of 4", x.books(sheet, sheet, 0, 2), 0);
            due("n 3 of 4", x.books(sheet, sheet, 0, 3), -12);
            due("n 2 of the last 3", x.books(sheet, sheet, 1, 2), -12);
            due("n 20 of 4", x.books(sheet, sheet, 0, 20), -12);
        }
        due("no BOOKS", x.count(1), 0);
    }

    private static void booksAhead() {
        Check.sentence("two by two (as of book()), n of them: how many came (others are left out); -12: what stood ahead came");
        MudLibrary x = new MudLibrary();
        x.sheet(1, 1, 7);
        int[] cells = {3399, 999, 3400, 5, 1, 1000, 7};
        for (int k = 0; k < 7; k++) {
            x.cell(1, k, cells[k]);
        }
        due("one of three", x.books(1, 1, 0, 3), 1);
        due("LOOK of it", x.bookTold(0, 1) * 1000 + x.bookTold(0, 2) * 100 + x.bookTold(0, 3), 3399);
        due("WORTH of it", x.bookTold(0, 4), 999);
        due("half a pair is outside", x.books(1, 1, 0, 4), -12);
        due("what stood ahead came", x.count(1), 2);
        due("from item 1 on, the second alone", x.books(1, 1, 1, 3), 1);
        due("SIZE of it", x.bookTold(2, 3), 5);
        due("from the last item on", x.books(1, 1, 6, 1), -12);
        due("none of them", x.books(1, 1, 6, 0), 0);
        x.sheet(2, 2, 40);
        for (int k = 0; k < 40; k++) {
            x.cell(2, k, 9);
        }
        due("19 of them", x.books(2, 2, 1, 19), 19);
        due("2 have room", x.books(2, 2, 0, 20), 2);
        due("none has room", x.books(2, 2, 0, 20), 0);
        due("none has room, outside", x.books(2, 2, 2, 20), -12);
        due("BOOKS", x.count(1), 24);
    }

    private static void takenFor() {
        Check.sentence("A BOOK taken for one of STATE k (0 .. 5), or one under that one (also by others between): its SIZE. -11; -13");
        int[] above = {-1, 0, 0, 0, 1, 3};
        for (int state = 0; state <= 5; state++) {
            MudLibrary x = Check.withBooks(1, 77);
            if (state == 4) {
                x.pass(48);
            } else if (state == 2) {
                x.move(0, 2);
            } else if (state != 1) {
                x.move(0, 3);
                x.move(0, state == 5 ? 5 : 3);
                x.pass(state == 0 ? 72 : 1);
            }
            for (int k = 0; k <= 5; k++) {
                boolean is = false;
                for (int s = state; s >= 0; s = above[s]) {
                    is |= s == k;
                }
                due("taken(0, " + k + ") of STATE " + state, x.taken(0, k), is ? 77 : -13);
            }
            for (int k : new int[] {-1, 6, LOW, HIGH}) {
                due("taken(0, " + k + ")", x.taken(0, k), BAD);
                due("BAD ahead of -11", x.taken(1, k), BAD);
            }
            for (int book : new int[] {-1, 1, 24, LOW, HIGH}) {
                due("taken(" + book + ", 0)", x.taken(book, 0), -11);
                due("-11 ahead of -13", x.taken(book, 5), -11);
            }
        }
    }
}
