/**
 * SHA-512, SHA-384 and SipHash-2-4 by numbers of 32 bits alone.
 *
 * <p>A number of 64 bits is a pair of ints, its high half and its low half. Rows of such numbers
 * are rows of ints in which each high half stands just before its low half; only the key, whose
 * halves the document numbers, has its low halves first.
 */
public final class WideHash {
    private static final int NONE = 0;
    private static final int SHA_512 = 1;
    private static final int SHA_384 = 2;
    private static final int SIP = 3;
    private static final int CLOSED = 4;

    private static final int KEY_HALVES = 4;
    private static final int LONGEST_RUN = 2000;

    private final Sha sha = new Sha();
    private final Sip sip = new Sip();
    private final int[] key = new int[KEY_HALVES];
    private boolean ready = false;
    private boolean open = false;
    private int kind = NONE;
    private int count = 0;

    public WideHash() {
    }

    public void init() {
        ready = true;
    }

    public boolean beginSha(int bits) {
        if (!ready || (bits != 512 && bits != 384)) {
            return false;
        }
        sha.begin(bits == 384);
        openAs(bits == 384 ? SHA_384 : SHA_512);
        return true;
    }

    public boolean sipKey(int i, int w) {
        if (i < 0 || i >= KEY_HALVES) {
            return false;
        }
        key[i] = w;
        return true;
    }

    public boolean beginSip() {
        if (!ready) {
            return false;
        }
        sip.begin(key);
        openAs(SIP);
        return true;
    }

    public boolean update(int b) {
        if (!open || b < 0 || b > 255) {
            return false;
        }
        take(b);
        return true;
    }

    public boolean updates(int n, int b, int step) {
        if (!open || n < 0 || n > LONGEST_RUN) {
            return false;
        }
        for (int i = 0; i < n; i++) {
            // A wrapped sum or product is still right modulo 256, and the mask is never below 0.
            take((b + i * step) & 255);
        }
        return true;
    }

    public boolean close() {
        if (!open) {
            return false;
        }
        if (kind == SIP) {
            sip.end(count);
        } else {
            sha.end(count);
        }
        open = false;
        return true;
    }

    public int word(int i) {
        if (open || i < 0 || i >= wordsOf(kind)) {
            return 0;
        }
        return kind == SIP ? sip.wordAt(i) : sha.wordAt(i);
    }

    public int length() {
        return count;
    }

    public int state() {
        return kind == NONE || open ? kind : kind + CLOSED;
    }

    public int add64Lo(int ah, int al, int bh, int bl) {
        return al + bl;
    }

    public int add64Hi(int ah, int al, int bh, int bl) {
        return ah + bh + carry(al, bl);
    }

    public int rotr64Hi(int h, int l, int n) {
        return turned(h, l, n);
    }

    public int rotr64Lo(int h, int l, int n) {
        return turned(l, h, n);
    }

    private void openAs(int newKind) {
        kind = newKind;
        open = true;
        count = 0;
    }

    private void take(int b) {
        if (kind == SIP) {
            sip.take(b);
        } else {
            sha.take(b);
        }
        count++;
    }

    private static int wordsOf(int kind) {
        switch (kind) {
            case SHA_512:
                return 16;
            case SHA_384:
                return 12;
            case SIP:
                return 2;
            default:
                return 0;
        }
    }

    /** What the sum of two low halves, taken without signs, carries into the high half: 0 or 1. */
    private static int carry(int a, int b) {
        return ((a & b) | ((a | b) & ~(a + b))) >>> 31;
    }

    /** Adds a pair to the pair that begins at a place of a row. */
    private static void addTo(int[] row, int at, int high, int low) {
        row[at] += high + carry(row[at + 1], low);
        row[at + 1] += low;
    }

    /**
     * The high half of a pair turned to the right by n. With the halves exchanged, which is a turn
     * by 32, this answers the low half.
     *
     * <p>A low half that is moved by fewer than 32 places is the same as one that is turned: only
     * the high half takes 0s from above.
     */
    private static int turned(int high, int low, int n) {
        int upper = (n & 32) == 0 ? low : high;
        int lower = (n & 32) == 0 ? high : low;
        int places = n & 31;
        // Two shifts, since Java takes a shift by 32 for one by 0.
        return (lower >>> places) | (upper << 1 << (31 - places));
    }

    /** SHA-512, and SHA-384, which differs in the state at first and in the words that are shown. */
    private static final class Sha {
        private static final int ROUNDS = 80;
        private static final int BLOCK_BYTES = 128;
        private static final int BLOCK_WORDS = 32;
        private static final int STATE_WORDS = 16;

        /** Where the letters stand in the row of a .. h; d, between c and e, is only ever moved. */
        private static final int A = 0;
        private static final int B = 2;
        private static final int C = 4;
        private static final int E = 8;
        private static final int F = 10;
        private static final int G = 12;
        private static final int H = 14;

        /** The first 64 bits behind the point of the square roots of the first 16 primes. */
        private static final int[] SQUARE_ROOTS = {
            0x6a09e667, 0xf3bcc908, 0xbb67ae85, 0x84caa73b,
            0x3c6ef372, 0xfe94f82b, 0xa54ff53a, 0x5f1d36f1,
            0x510e527f, 0xade682d1, 0x9b05688c, 0x2b3e6c1f,
            0x1f83d9ab, 0xfb41bd6b, 0x5be0cd19, 0x137e2179,
            0xcbbb9d5d, 0xc1059ed8, 0x629a292a, 0x367cd507,
            0x9159015a, 0x3070dd17, 0x152fecd8, 0xf70e5939,
            0x67332667, 0xffc00b31, 0x8eb44a87, 0x68581511,
            0xdb0c2e0d, 0x64f98fa7, 0x47b5481d, 0xbefa4fa4,
        };

        /** The first 64 bits behind the point of the cube roots of the first 80 primes. */
        private static final int[] CUBE_ROOTS = {
            0x428a2f98, 0xd728ae22, 0x71374491, 0x23ef65cd,
            0xb5c0fbcf, 0xec4d3b2f, 0xe9b5dba5, 0x8189dbbc,
            0x3956c25b, 0xf348b538, 0x59f111f1, 0xb605d019,
            0x923f82a4, 0xaf194f9b, 0xab1c5ed5, 0xda6d8118,
            0xd807aa98, 0xa3030242, 0x12835b01, 0x45706fbe,
            0x243185be, 0x4ee4b28c, 0x550c7dc3, 0xd5ffb4e2,
            0x72be5d74, 0xf27b896f, 0x80deb1fe, 0x3b1696b1,
            0x9bdc06a7, 0x25c71235, 0xc19bf174, 0xcf692694,
            0xe49b69c1, 0x9ef14ad2, 0xefbe4786, 0x384f25e3,
            0x0fc19dc6, 0x8b8cd5b5, 0x240ca1cc, 0x77ac9c65,
            0x2de92c6f, 0x592b0275, 0x4a7484aa, 0x6ea6e483,
            0x5cb0a9dc, 0xbd41fbd4, 0x76f988da, 0x831153b5,
            0x983e5152, 0xee66dfab, 0xa831c66d, 0x2db43210,
            0xb00327c8, 0x98fb213f, 0xbf597fc7, 0xbeef0ee4,
            0xc6e00bf3, 0x3da88fc2, 0xd5a79147, 0x930aa725,
            0x06ca6351, 0xe003826f, 0x14292967, 0x0a0e6e70,
            0x27b70a85, 0x46d22ffc, 0x2e1b2138, 0x5c26c926,
            0x4d2c6dfc, 0x5ac42aed, 0x53380d13, 0x9d95b3df,
            0x650a7354, 0x8baf63de, 0x766a0abb, 0x3c77b2a8,
            0x81c2c92e, 0x47edaee6, 0x92722c85, 0x1482353b,
            0xa2bfe8a1, 0x4cf10364, 0xa81a664b, 0xbc423001,
            0xc24b8b70, 0xd0f89791, 0xc76c51a3, 0x0654be30,
            0xd192e819, 0xd6ef5218, 0xd6990624, 0x5565a910,
            0xf40e3585, 0x5771202a, 0x106aa070, 0x32bbd1b8,
            0x19a4c116, 0xb8d2d0c8, 0x1e376c08, 0x5141ab53,
            0x2748774c, 0xdf8eeb99, 0x34b0bcb5, 0xe19b48a8,
            0x391c0cb3, 0xc5c95a63, 0x4ed8aa4a, 0xe3418acb,
            0x5b9cca4f, 0x7763e373, 0x682e6ff3, 0xd6b2b8a3,
            0x748f82ee, 0x5defb2fc, 0x78a5636f, 0x43172f60,
            0x84c87814, 0xa1f0ab72, 0x8cc70208, 0x1a6439ec,
            0x90befffa, 0x23631e28, 0xa4506ceb, 0xde82bde9,
            0xbef9a3f7, 0xb2c67915, 0xc67178f2, 0xe372532b,
            0xca273ece, 0xea26619c, 0xd186b8c7, 0x21c0c207,
            0xeada7dd6, 0xcde0eb1e, 0xf57d4f7f, 0xee6ed178,
            0x06f067aa, 0x72176fba, 0x0a637dc5, 0xa2c898a6,
            0x113f9804, 0xbef90dae, 0x1b710b35, 0x131c471b,
            0x28db77f5, 0x23047d84, 0x32caab7b, 0x40c72493,
            0x3c9ebe0a, 0x15c9bebc, 0x431d67c4, 0x9c100d4c,
            0x4cc5d4be, 0xcb3e42b6, 0x597f299c, 0xfc657e2a,
            0x5fcb6fab, 0x3ad6faec, 0x6c44198c, 0x4a475817,
        };

        private final int[] total = new int[STATE_WORDS];
        private final int[] letters = new int[STATE_WORDS];
        private final int[] schedule = new int[2 * ROUNDS];
        private int filled = 0;

        void begin(boolean is384) {
            System.arraycopy(SQUARE_ROOTS, is384 ? STATE_WORDS : 0, total, 0, STATE_WORDS);
            filled = 0;
        }

        void take(int b) {
            int at = filled >> 2;
            // Four bytes push out all that an earlier block left in the word, so none is cleared.
            schedule[at] = (schedule[at] << 8) | b;
            filled++;
            if (filled == BLOCK_BYTES) {
                mixBlock();
                filled = 0;
            }
        }

        void end(int bytes) {
            take(128);
            int zeros = (BLOCK_BYTES - 16 - 1 - bytes) & (BLOCK_BYTES - 1);
            for (int i = 0; i < zeros; i++) {
                take(0);
            }
            schedule[BLOCK_WORDS - 4] = 0;
            schedule[BLOCK_WORDS - 3] = 0;
            schedule[BLOCK_WORDS - 2] = bytes >>> 29;
            schedule[BLOCK_WORDS - 1] = bytes << 3;
            mixBlock();
        }

        int wordAt(int i) {
            return total[i];
        }

        private void mixBlock() {
            for (int at = BLOCK_WORDS; at < 2 * ROUNDS; at += 2) {
                extend(at);
            }
            System.arraycopy(total, 0, letters, 0, STATE_WORDS);
            for (int at = 0; at < 2 * ROUNDS; at += 2) {
                mixRound(at);
            }
            for (int at = 0; at < STATE_WORDS; at += 2) {
                addTo(total, at, letters[at], letters[at + 1]);
            }
        }

        /** Reckons the pair at a place of the schedule from those 16, 15, 7 and 2 pairs before. */
        private void extend(int at) {
            int h15 = schedule[at - 30];
            int l15 = schedule[at - 29];
            int h2 = schedule[at - 4];
            int l2 = schedule[at - 3];
            schedule[at] = schedule[at - 32];
            schedule[at + 1] = schedule[at - 31];
            addTo(schedule, at,
                    turned(h15, l15, 1) ^ turned(h15, l15, 8) ^ (h15 >>> 7),
                    turned(l15, h15, 1) ^ turned(l15, h15, 8) ^ turned(l15, h15, 7));
            addTo(schedule, at, schedule[at - 14], schedule[at - 13]);
            addTo(schedule, at,
                    turned(h2, l2, 19) ^ turned(h2, l2, 61) ^ (h2 >>> 6),
                    turned(l2, h2, 19) ^ turned(l2, h2, 61) ^ turned(l2, h2, 6));
        }

        private void mixRound(int at) {
            // The document's x is summed up in the place of h, which no letter takes over.
            addTo(letters, H, turnsOfE(letters[E], letters[E + 1]), turnsOfE(letters[E + 1], letters[E]));
            addTo(letters, H, chosen(0), chosen(1));
            addTo(letters, H, CUBE_ROOTS[at], CUBE_ROOTS[at + 1]);
            addTo(letters, H, schedule[at], schedule[at + 1]);
            int xHigh = letters[H];
            int xLow = letters[H + 1];
            int majorityHigh = majority(0);
            int majorityLow = majority(1);

            System.arraycopy(letters, A, letters, B, STATE_WORDS - 2);
            addTo(letters, E, xHigh, xLow);
            letters[A] = xHigh;
            letters[A + 1] = xLow;
            // What was a has become b.
            addTo(letters, A, turnsOfA(letters[B], letters[B + 1]), turnsOfA(letters[B + 1], letters[B]));
            addTo(letters, A, majorityHigh, majorityLow);
        }

        /** The high halves (half 0) or the low ones (half 1) of e AND f XOR NOT e AND g. */
        private int chosen(int half) {
            int e = letters[E + half];
            return (e & letters[F + half]) ^ (~e & letters[G + half]);
        }

        /** The high halves (half 0) or the low ones (half 1) of a AND b XOR a AND c XOR b AND c. */
        private int majority(int half) {
            int a = letters[A + half];
            int b = letters[B + half];
            int c = letters[C + half];
            return (a & b) ^ (a & c) ^ (b & c);
        }

        /** The high half of the document's S0; the low one with the halves exchanged. */
        private static int turnsOfA(int high, int low) {
            return turned(high, low, 28) ^ turned(high, low, 34) ^ turned(high, low, 39);
        }

        /** The high half of the document's S1; the low one with the halves exchanged. */
        private static int turnsOfE(int high, int low) {
            return turned(high, low, 14) ^ turned(high, low, 18) ^ turned(high, low, 41);
        }
    }

    /** SipHash-2-4. */
    private static final class Sip {
        private static final int GROUP_BYTES = 8;

        /** Where v0 .. v3 stand in the row of them. */
        private static final int V0 = 0;
        private static final int V1 = 2;
        private static final int V2 = 4;
        private static final int V3 = 6;

        private static final int[] FIRST = {
            0x736f6d65, 0x70736575, 0x646f7261, 0x6e646f6d,
            0x6c796765, 0x6e657261, 0x74656462, 0x79746573,
        };

        private final int[] v = new int[8];
        private int groupHigh = 0;
        private int groupLow = 0;
        private int filled = 0;

        void begin(int[] key) {
            for (int at = V0; at <= V3; at += 2) {
                // v0 and v2 take p, v1 and v3 take q.
                int keyLow = at & 2;
                v[at] = FIRST[at] ^ key[keyLow + 1];
                v[at + 1] = FIRST[at + 1] ^ key[keyLow];
            }
            filled = 0;
        }

        void take(int b) {
            // The lowest byte comes first: eight bytes push each one down to its place.
            groupLow = turned(groupLow, groupHigh, 8);
            groupHigh = (groupHigh >>> 8) | (b << 24);
            filled++;
            if (filled == GROUP_BYTES) {
                mixGroup();
                filled = 0;
            }
        }

        void end(int bytes) {
            int zeros = (GROUP_BYTES - 1 - bytes) & (GROUP_BYTES - 1);
            for (int i = 0; i < zeros; i++) {
                take(0);
            }
            take(bytes & 255);
            v[V2 + 1] ^= 255;
            for (int i = 0; i < 4; i++) {
                mixRound();
            }
        }

        int wordAt(int i) {
            return v[V0 + i] ^ v[V1 + i] ^ v[V2 + i] ^ v[V3 + i];
        }

        private void mixGroup() {
            v[V3] ^= groupHigh;
            v[V3 + 1] ^= groupLow;
            mixRound();
            mixRound();
            v[V0] ^= groupHigh;
            v[V0 + 1] ^= groupLow;
        }

        private void mixRound() {
            mixPair(V0, V1, 13);
            turnLeft(V0, 32);
            mixPair(V2, V3, 16);
            mixPair(V0, V3, 21);
            mixPair(V2, V1, 17);
            turnLeft(V2, 32);
        }

        /** Adds the second to the first, turns the second to the left, and XORs it with the first. */
        private void mixPair(int first, int second, int places) {
            addTo(v, first, v[second], v[second + 1]);
            turnLeft(second, places);
            v[second] ^= v[first];
            v[second + 1] ^= v[first + 1];
        }

        private void turnLeft(int at, int places) {
            int high = v[at];
            int low = v[at + 1];
            v[at] = turned(high, low, -places);
            v[at + 1] = turned(low, high, -places);
        }
    }
}
