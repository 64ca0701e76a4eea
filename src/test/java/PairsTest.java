/** Promises 12 to 15: sums and turns of pairs, at any time. */
public final class PairsTest {
    private static final Due DUE = new Due("PairsTest");

    private static final int[] HALVES = {
        0, 1, 2, 3, -1, -2, 5, 255, 65535, 65536, 0x12345678, 0x87654321, 0x55555555, 0xAAAAAAAA,
        Integer.MAX_VALUE - 1, Integer.MAX_VALUE, Integer.MIN_VALUE, Integer.MIN_VALUE + 1,
    };

    private static final int[] FAR_TURNS = {
        Integer.MIN_VALUE, Integer.MIN_VALUE + 1, Integer.MIN_VALUE + 33,
        Integer.MAX_VALUE, Integer.MAX_VALUE - 31, Integer.MAX_VALUE - 32, 1000003, -1000003,
    };

    public static void main(String[] args) {
        pairs();
        pairsChangeNothing();
        DUE.end();
    }

    private static void pairs() {
        for (int h : HALVES) {
            for (int l : HALVES) {
                sums(h, l);
                turns(h, l);
            }
        }
    }

    /** New objects come often, here and below, since one is promised 512 calls alone. */
    private static void turns(int h, int l) {
        WideHash near = new WideHash();
        for (int n = -127; n <= 128; n++) {
            turn(near, h, l, n);
        }
        WideHash far = new WideHash();
        for (int n : FAR_TURNS) {
            turn(far, h, l, n);
        }
    }

    private static void sums(int ah, int al) {
        for (int bh : HALVES) {
            WideHash x = new WideHash();
            for (int bl : HALVES) {
                long sum = joined(ah, al) + joined(bh, bl);
                String of = "(" + ah + ", " + al + ", " + bh + ", " + bl + ")";
                DUE.is("add64Lo" + of, x.add64Lo(ah, al, bh, bl), (int) sum);
                DUE.is("add64Hi" + of, x.add64Hi(ah, al, bh, bl), (int) (sum >>> 32));
            }
        }
    }

    private static void turn(WideHash x, int h, int l, int n) {
        long due = Long.rotateRight(joined(h, l), Math.floorMod(n, 64));
        String of = "(" + h + ", " + l + ", " + n + ")";
        DUE.is("rotr64Hi" + of, x.rotr64Hi(h, l, n), (int) (due >>> 32));
        DUE.is("rotr64Lo" + of, x.rotr64Lo(h, l, n), (int) due);
    }

    private static void pairsChangeNothing() {
        WideHash x = new WideHash();
        x.init();
        x.beginSha(512);
        x.update('a');
        askAll(x);
        DUE.is("state() of an open digest after pairs", x.state(), 1);
        DUE.is("length() of an open digest after pairs", x.length(), 1);
        x.close();
        askAll(x);
        int[] words = Reference.sha(512, new byte[] {'a'});
        for (int i = 0; i < words.length; i++) {
            DUE.is("word(" + i + ") after pairs", x.word(i), words[i]);
        }
    }

    private static void askAll(WideHash x) {
        DUE.is("add64Lo in use", x.add64Lo(1, -1, 0, 1), 0);
        DUE.is("add64Hi in use", x.add64Hi(1, -1, 0, 1), 2);
        DUE.is("rotr64Hi in use", x.rotr64Hi(1, 2, 32), 2);
        DUE.is("rotr64Lo in use", x.rotr64Lo(1, 2, 32), 1);
    }

    private static long joined(int high, int low) {
        return (long) high << 32 | low & 0xffffffffL;
    }
}
