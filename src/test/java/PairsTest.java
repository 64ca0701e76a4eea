/** Promises 12 to 15: sums and turns of pairs, each promise by itself, against Java's longs. */
public final class PairsTest {
    private static final Due DUE = new Due("PairsTest");

    private static final int[] HALVES = {
        0, 1, 2, 3, -1, -2, 5, 255, 65535, 65536, 0x12345678, 0x87654321, 0x55555555, 0xAAAAAAAA,
        Integer.MAX_VALUE - 1, Integer.MAX_VALUE, Integer.MIN_VALUE, Integer.MIN_VALUE + 1,
    };

    private static final int[] FAR_TURNS = {
        Integer.MIN_VALUE, Integer.MIN_VALUE + 1, Integer.MIN_VALUE + 33,
        Integer.MAX_VALUE, Integer.MAX_VALUE - 31, Integer.MAX_VALUE - 32, 1000003, -1000003,
    };

    public static void main(String[] args) {
        for (int h : HALVES) {
            for (int l : HALVES) {
                lowSums(h, l);
                highSums(h, l);
                highTurns(h, l);
                lowTurns(h, l);
            }
        }
        DUE.end();
    }

    /** New objects come often, here and below, since one is promised 512 calls alone. */
    private static void lowSums(int ah, int al) {
        DUE.sentence("Promise 12: The low half of the sum of two long numbers");
        WideHash x = new WideHash();
        for (int bh : HALVES) {
            for (int bl : HALVES) {
                String call = "add64Lo(" + ah + ", " + al + ", " + bh + ", " + bl + ")";
                DUE.is(call, x.add64Lo(ah, al, bh, bl), (int) (joined(ah, al) + joined(bh, bl)));
            }
        }
    }

    private static void highSums(int ah, int al) {
        DUE.sentence("Promise 13: The high half");
        WideHash x = new WideHash();
        for (int bh : HALVES) {
            for (int bl : HALVES) {
                String call = "add64Hi(" + ah + ", " + al + ", " + bh + ", " + bl + ")";
                DUE.is(call, x.add64Hi(ah, al, bh, bl), (int) ((joined(ah, al) + joined(bh, bl)) >>> 32));
            }
        }
    }

    private static void highTurns(int h, int l) {
        DUE.sentence("Promise 14: The high half of a long number turned to the right by n");
        WideHash x = new WideHash();
        for (int n = -130; n <= 130; n++) {
            DUE.is("rotr64Hi(" + h + ", " + l + ", " + n + ")", x.rotr64Hi(h, l, n), (int) (turned(h, l, n) >>> 32));
        }
        for (int n : FAR_TURNS) {
            DUE.is("rotr64Hi(" + h + ", " + l + ", " + n + ")", x.rotr64Hi(h, l, n), (int) (turned(h, l, n) >>> 32));
        }
    }

    private static void lowTurns(int h, int l) {
        DUE.sentence("Promise 15: The low half");
        WideHash x = new WideHash();
        for (int n = -130; n <= 130; n++) {
            DUE.is("rotr64Lo(" + h + ", " + l + ", " + n + ")", x.rotr64Lo(h, l, n), (int) turned(h, l, n));
        }
        for (int n : FAR_TURNS) {
            DUE.is("rotr64Lo(" + h + ", " + l + ", " + n + ")", x.rotr64Lo(h, l, n), (int) turned(h, l, n));
        }
    }

    private static long turned(int h, int l, int n) {
        return Long.rotateRight(joined(h, l), Math.floorMod(n, 64));
    }

    private static long joined(int high, int low) {
        return (long) high << 32 | low & 0xffffffffL;
    }
}
