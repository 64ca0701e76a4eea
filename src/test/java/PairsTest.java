import java.util.function.IntConsumer;

/** Promises 12 to 15: sums and turns of pairs, each promise by itself, against Java's longs. */
public final class PairsTest {
    private static final Due DUE = new Due("PairsTest");

    private static final int[] HALVES = {
        0, 1, 2, 3, -1, -2, 5, 255, 65535, 65536, 0x12345678, 0x87654321, 0x55555555, 0xAAAAAAAA,
        Integer.MAX_VALUE - 1, Integer.MAX_VALUE, Integer.MIN_VALUE, Integer.MIN_VALUE + 1,
    };

    private static final int[] FAR_TURNS = {
        Integer.MIN_VALUE, Integer.MIN_VALUE + 1, Integer.MIN_VALUE + 33,
        Integer.MAX_VALUE, Integer.MAX_VALUE - 31, Integer.MAX_VALUE - 32, 1000003, -1000003,
    };

    public static void main(String[] args) {
        DUE.test("Promise 12: The low half of the sum of two long numbers", PairsTest::lowSums);
        DUE.test("Promise 13: The high half", PairsTest::highSums);
        DUE.test("Promise 14: The high half of a long number turned to the right by n", PairsTest::highTurns);
        DUE.test("Promise 15: The low half", PairsTest::lowTurns);
        DUE.end();
    }

    private static void lowSums() {
        eachPair((x, ah, al) -> eachPair((y, bh, bl) -> {
            String call = "add64Lo(" + ah + ", " + al + ", " + bh + ", " + bl + ")";
            DUE.is(call, y.add64Lo(ah, al, bh, bl), (int) (joined(ah, al) + joined(bh, bl)));
        }));
    }

    private static void highSums() {
        eachPair((x, ah, al) -> eachPair((y, bh, bl) -> {
            String call = "add64Hi(" + ah + ", " + al + ", " + bh + ", " + bl + ")";
            DUE.is(call, y.add64Hi(ah, al, bh, bl), (int) ((joined(ah, al) + joined(bh, bl)) >>> 32));
        }));
    }

    private static void highTurns() {
        eachPair((x, h, l) -> eachTurn(n -> {
            String call = "rotr64Hi(" + h + ", " + l + ", " + n + ")";
            DUE.is(call, x.rotr64Hi(h, l, n), (int) (turned(h, l, n) >>> 32));
        }));
    }

    private static void lowTurns() {
        eachPair((x, h, l) -> eachTurn(n -> {
            String call = "rotr64Lo(" + h + ", " + l + ", " + n + ")";
            DUE.is(call, x.rotr64Lo(h, l, n), (int) turned(h, l, n));
        }));
    }

    private interface OfPair {
        void look(WideHash x, int high, int low);
    }

    /** Each pair comes with a new object, since one is promised 512 calls alone. */
    private static void eachPair(OfPair looking) {
        for (int high : HALVES) {
            for (int low : HALVES) {
                looking.look(new WideHash(), high, low);
            }
        }
    }

    private static void eachTurn(IntConsumer looking) {
        for (int n = -130; n <= 130; n++) {
            looking.accept(n);
        }
        for (int n : FAR_TURNS) {
            looking.accept(n);
        }
    }

    private static long turned(int h, int l, int n) {
        return Long.rotateRight(joined(h, l), Math.floorMod(n, 64));
    }

    private static long joined(int high, int low) {
        return (long) high << 32 | low & 0xffffffffL;
    }
}
