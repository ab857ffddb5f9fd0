import java.util.Random;

/** Any numbers in any call: none may throw, and what is refused may change nothing that is counted. */
public final class EdgeTest {
    private static final int[] EDGES = {Integer.MIN_VALUE, Integer.MIN_VALUE + 1, -65536, -1000, -100, -2, -1, 0, 1, 2,
        3, 4, 5, 6, 7, 8, 20, 24, 25, 31, 32, 33, 40, 41, 63, 99, 100, 101, 110, 1210, 999, 1000, 5006, 9999, 14640,
        65535, 65536, 998999, 999999, Integer.MAX_VALUE - 1, Integer.MAX_VALUE};

    private final Random random;
    private final MudLibrary x = new MudLibrary();

    private EdgeTest(int run) {
        random = new Random(run);
    }

    public static void main(String[] args) {
        for (int run = 0; run < 3000; run++) {
            EdgeTest test = new EdgeTest(run);
            for (int call = 0; call < 512; call++) {
                test.callAny(call);
            }
        }
        Check.end("EdgeTest");
    }

    private int any() {
        int way = random.nextInt(8);
        return way == 0 ? random.nextInt() : way < 4 ? EDGES[random.nextInt(EDGES.length)] : random.nextInt(6) - 1;
    }

    private long anyText() {
        String text = "first mould;may 1;value(size);not-1*2<3 or and12345=?";
        long bytes = 0;
        int at = random.nextInt(text.length());
        for (int k = 0; k < 8; k++) {
            bytes |= (long) text.charAt((at + k) % text.length()) << 8 * k;
        }
        return bytes;
    }

    private long counted() {
        long all = 0;
        for (int what = 0; what <= 14; what++) {
            all = all * 31 + x.count(what);
        }
        return all;
    }

    private void callAny(int call) {
        long before = call % 8 == 0 ? counted() : 0;
        int which = random.nextInt(34);
        long answer = which < 17 ? callFirst(which) : callSecond(which);
        boolean refused = answer < 0 && answer > -100 && which != 13 && which != 31;
        if (call % 8 == 0 && refused) {
            Check.isTrue("nothing changed in call " + which, before == counted());
        }
    }

    private long callFirst(int which) {
        switch (which) {
            case 0: return x.set(any(), any());
            case 1: return x.pass(any());
            case 2: case 3: return x.book(any(), any());
            case 4: return x.bookTold(any(), any());
            case 5: case 6: return x.move(any(), any());
            case 7: return x.left(any());
            case 8: return x.next(any());
            case 9: return x.lost(any());
            case 10: return x.feed(any(), random.nextLong());
            case 11: case 12: return x.feed(8, anyText());
            case 13: return x.text();
            case 14: return x.force(any());
            case 15: return x.says(any(), any()) == MudLibrary.NO ? -1 : 0;
            default: return x.trial(any(), any(), any());
        }
    }

    private long callSecond(int which) {
        switch (which) {
            case 17: return x.barred(any(), any(), any());
            case 18: return x.lots(any(), any(), any());
            case 19: return x.hand(any(), any());
            case 20: return x.pace(any());
            case 21: return x.leaf(any());
            case 22: return x.gap(any(), any());
            case 23: return x.agrees(any(), any());
            case 24: return x.joined(any());
            case 25: return x.list(any(), any(), any());
            case 26: return x.were(any(), any(), any());
            case 27: return random.nextBoolean() ? x.crate(any(), any()) : x.chain(any(), any(), any());
            case 28: return random.nextBoolean() ? x.from(any()) : x.kind(any(), any());
            case 29: return random.nextBoolean() ? x.years(any(), any(), any()) : x.count(any());
            case 30: return x.sheet(any(), any(), any());
            case 31: return x.books(any(), any(), any(), any());
            case 32: return random.nextBoolean() ? x.cell(any(), any(), any()) : x.taken(any(), any());
            default: return x.copy(any(), any(), any(), any(), any());
        }
    }
}
