/** The sentences of 'What it is' and 'Terms' that name an edge: each has a method of its own. */
public final class TermsTest {
    private static final Due DUE = new Due("TermsTest");
    private static final Kind[] SHAS = {Kind.SHA_512, Kind.SHA_384};

    /** The key bytes 0 .. 15 of the digests that the authors of SipHash print. */
    private static final int[] PRINTED_KEY = {0x03020100, 0x07060504, 0x0b0a0908, 0x0f0e0d0c};

    public static void main(String[] args) {
        DUE.test("What it is: An object is used for at most 512 calls", TermsTest::atMost512Calls);
        DUE.test("Terms: sums wrap", TermsTest::sumsWrap);
        DUE.test("Terms: TURNED to the right by n: what leaves below comes in above",
                TermsTest::whatLeavesBelowComesInAbove);
        DUE.test("Terms: n modulo 64 places (0 .. 63)", TermsTest::turnedModulo64);
        DUE.test("Terms: also for n below 0", TermsTest::turnedBelow0);
        DUE.test("Terms: to the left likewise", TermsTest::turnedToTheLeft);
        DUE.test("Terms: by as few bytes 0 as are wanted", TermsTest::asFewZerosAsAreWanted);
        DUE.test("Terms: the length with the 16 bytes that come is a multiple of 128",
                TermsTest::theLengthIsAMultipleOf128);
        DUE.test("Terms: and by 8 n as 16 bytes, the highest first", TermsTest::theBitsAs16Bytes);
        DUE.test("Terms: 16 long numbers w0 .. w15, the highest byte first", TermsTest::theHighestByteFirst);
        DUE.test("Terms: XORed with v moved by 7 to lower places (0s from above)", TermsTest::zerosFromAbove);
        DUE.test("Terms: SHA-384 is the same with the square roots of the ninth to the sixteenth prime",
                TermsTest::squareRootsOfTheNinthPrime);
        DUE.test("Terms: and six long numbers of the state at the end", TermsTest::sixLongNumbers);
        DUE.test("Terms: as many bytes 0 as are wanted so that there are 7 more than a multiple of 8",
                TermsTest::sevenMoreThanAMultipleOf8);
        DUE.test("Terms: long numbers m of 8 bytes each, the LOWEST first", TermsTest::theLowestByteFirst);
        DUE.test("Terms: and a byte n modulo 256", TermsTest::lengthModulo256);
        DUE.test("Terms: A digest is OPEN from its beginning on, then CLOSED", TermsTest::openFromItsBeginningOn);
        DUE.test("Terms: ---- pairs, at any time", TermsTest::pairsAtAnyTime);
        DUE.end();
    }

    private static void atMost512Calls() {
        for (Kind kind : Kind.values()) {
            WideHash x = kind.opened();
            byte[] message = new byte[508 * 2000];
            for (int i = 0; i < 508; i++) {
                DUE.is(kind + ": call " + (i + 3), x.updates(2000, i, 77), true);
                System.arraycopy(Messages.run(2000, i, 77), 0, message, i * 2000, 2000);
            }
            DUE.is(kind + ": call 511, close()", x.close(), true);
            DUE.is(kind + ": call 512, word(1)", x.word(1), kind.digest(message)[1]);
        }
        WideHash small = new WideHash();
        for (int i = 1; i < 512; i++) {
            DUE.is("call " + i + ", state()", small.state(), 0);
        }
        DUE.is("call 512, sipKey(3, 1)", small.sipKey(3, 1), true);
    }

    private static void sumsWrap() {
        sum(0, 0, 0, 0, 0, 0);
        sum(0, -1, 0, 1, 1, 0);
        sum(0, 0x7fffffff, 0, 1, 0, 0x80000000);
        sum(0, 0x7fffffff, 0, 0x80000000, 0, -1);
        sum(0, 0x80000000, 0, 0x80000000, 1, 0);
        sum(0, -1, 0, -1, 1, -2);
        sum(0x7fffffff, -1, 0, 1, 0x80000000, 0);
        sum(0x7fffffff, 0, 0x7fffffff, 0, -2, 0);
        sum(0x80000000, 0, 0x80000000, 0, 0, 0);
        sum(0x80000000, 0, -1, -1, 0x7fffffff, -1);
        sum(-1, -1, 0, 1, 0, 0);
        sum(-1, 0, 1, 0, 0, 0);
        sum(-1, -1, -1, -1, -1, -2);
        sum(-1, -1, 0, 0, -1, -1);
    }

    private static void sum(int ah, int al, int bh, int bl, int high, int low) {
        WideHash x = new WideHash();
        DUE.is("add64Hi(" + ah + ", " + al + ", " + bh + ", " + bl + ")", x.add64Hi(ah, al, bh, bl), high);
        DUE.is("add64Lo(" + ah + ", " + al + ", " + bh + ", " + bl + ")", x.add64Lo(ah, al, bh, bl), low);
        DUE.is("add64Hi(" + bh + ", " + bl + ", " + ah + ", " + al + ")", x.add64Hi(bh, bl, ah, al), high);
        DUE.is("add64Lo(" + bh + ", " + bl + ", " + ah + ", " + al + ")", x.add64Lo(bh, bl, ah, al), low);
    }

    private static void whatLeavesBelowComesInAbove() {
        turn(0, 1, 1, 0x80000000, 0);
        turn(1, 0, 1, 0, 0x80000000);
        turn(0x80000000, 0, 63, 0, 1);
        for (int bit = 0; bit < 64; bit++) {
            for (int n = 0; n < 64; n++) {
                int to = bit >= n ? bit - n : bit + 64 - n;
                turn(highOfBit(bit), lowOfBit(bit), n, highOfBit(to), lowOfBit(to));
            }
        }
    }

    private static int highOfBit(int bit) {
        return bit < 32 ? 0 : 1 << (bit - 32);
    }

    private static int lowOfBit(int bit) {
        return bit < 32 ? 1 << bit : 0;
    }

    private static void turnedModulo64() {
        for (int n : new int[] {0, 64, 128, 6400, 1 << 30, Integer.MAX_VALUE - 63}) {
            turn(0x01234567, 0x89abcdef, n, 0x01234567, 0x89abcdef);
        }
        for (int n : new int[] {4, 68, 132, 6404}) {
            turn(0x01234567, 0x89abcdef, n, 0xf0123456, 0x789abcde);
        }
        for (int n : new int[] {31, 95, Integer.MAX_VALUE - 32}) {
            turn(0x01234567, 0x89abcdef, n, 0x13579bde, 0x02468acf);
        }
        for (int n : new int[] {32, 96, 160, Integer.MAX_VALUE - 31}) {
            turn(0x01234567, 0x89abcdef, n, 0x89abcdef, 0x01234567);
        }
        for (int n : new int[] {33, 97, Integer.MAX_VALUE - 30}) {
            turn(0x01234567, 0x89abcdef, n, 0xc4d5e6f7, 0x8091a2b3);
        }
        for (int n : new int[] {63, 127, Integer.MAX_VALUE}) {
            turn(0x01234567, 0x89abcdef, n, 0x02468acf, 0x13579bde);
        }
    }

    private static void turnedBelow0() {
        for (int n : new int[] {-64, -128, -6400, Integer.MIN_VALUE}) {
            turn(0x01234567, 0x89abcdef, n, 0x01234567, 0x89abcdef);
        }
        for (int n : new int[] {-1, -65, Integer.MIN_VALUE + 63}) {
            turn(0x01234567, 0x89abcdef, n, 0x02468acf, 0x13579bde);
        }
        for (int n : new int[] {-31, -95, Integer.MIN_VALUE + 33}) {
            turn(0x01234567, 0x89abcdef, n, 0xc4d5e6f7, 0x8091a2b3);
        }
        for (int n : new int[] {-32, -96, Integer.MIN_VALUE + 32}) {
            turn(0x01234567, 0x89abcdef, n, 0x89abcdef, 0x01234567);
        }
        for (int n : new int[] {-33, -97, Integer.MIN_VALUE + 31}) {
            turn(0x01234567, 0x89abcdef, n, 0x13579bde, 0x02468acf);
        }
        for (int n : new int[] {-63, -127, Integer.MIN_VALUE + 1}) {
            turn(0x01234567, 0x89abcdef, n, 0x8091a2b3, 0xc4d5e6f7);
        }
    }

    private static void turn(int h, int l, int n, int high, int low) {
        WideHash x = new WideHash();
        DUE.is("rotr64Hi(" + h + ", " + l + ", " + n + ")", x.rotr64Hi(h, l, n), high);
        DUE.is("rotr64Lo(" + h + ", " + l + ", " + n + ")", x.rotr64Lo(h, l, n), low);
    }

    /** No call turns to the left by itself: only SipHash shows it, here with no byte of a message. */
    private static void turnedToTheLeft() {
        printedSip(0, 0x726fdb47, 0xdd0e0e31);
    }

    private static void asFewZerosAsAreWanted() {
        // 111 bytes want none; 112 want 127, and with them a second block; so 239 and 240 again.
        printedSha(Kind.SHA_512, 111, 0xa1a11144, 0x9b198d9b);
        printedSha(Kind.SHA_512, 112, 0xc5fbd731, 0xd19d2ae1);
        printedSha(Kind.SHA_512, 239, 0xcb4c7fd5, 0x22756d57);
        printedSha(Kind.SHA_512, 240, 0x6c48466c, 0x9f6c07e4);
        printedSha(Kind.SHA_384, 111, 0xf5f9fe11, 0x0d809d34);
        printedSha(Kind.SHA_384, 112, 0x33ba080e, 0xc0ccb378);
        printedSha(Kind.SHA_384, 239, 0x2556cf07, 0x7a788c49);
        printedSha(Kind.SHA_384, 240, 0xd64769ad, 0x58f5a338);
    }

    private static void theLengthIsAMultipleOf128() {
        printedSha(Kind.SHA_512, 0, 0xcf83e135, 0x7eefb8bd);
        printedSha(Kind.SHA_512, 127, 0xeab89674, 0xfeaa34e2);
        printedSha(Kind.SHA_512, 128, 0x1dffd5e3, 0xadb71d45);
        printedSha(Kind.SHA_512, 129, 0x1d9da57f, 0xbbdab09a);
        printedSha(Kind.SHA_384, 0, 0x38b060a7, 0x51ac9638);
        printedSha(Kind.SHA_384, 127, 0xd5fcfe2f, 0xcf6b3ef3);
        printedSha(Kind.SHA_384, 128, 0xca238577, 0x33191245);
        printedSha(Kind.SHA_384, 129, 0xef49ae5b, 0x9ad51433);
        for (Kind kind : SHAS) {
            for (int n = 0; n <= 257; n++) {
                digest(kind, n, 0, 1);
            }
        }
    }

    /**
     * The number of bits takes one byte for 31 bytes, two from 32 on, and three from 8192 on. A
     * fourth would come with 2^21 bytes, but 512 calls with 2000 bytes each give fewer than 2^20:
     * the 13 higher bytes can only be seen to be 0. From 2^19 bytes on the highest bit of all that
     * can be reached is set.
     */
    private static void theBitsAs16Bytes() {
        for (Kind kind : SHAS) {
            for (int n : new int[] {1, 31, 32, 33, 8191, 8192, 8193, 65536, (1 << 19) - 1, 1 << 19, 900000}) {
                digest(kind, n, 1, 1);
            }
        }
    }

    private static void theHighestByteFirst() {
        for (Kind kind : SHAS) {
            oneByteAtEachPlace(kind, 128);
        }
    }

    private static void oneByteAtEachPlace(Kind kind, int places) {
        for (int place = 0; place < places; place++) {
            byte[] message = new byte[places];
            message[place] = (byte) 129;
            WideHash x = kind.opened();
            x.updates(place, 0, 0);
            x.update(129);
            x.updates(places - 1 - place, 0, 0);
            DUE.ends(kind + ", byte 129 at place " + place, x, kind, message);
        }
    }

    /** All numbers of the block have their highest bit, which a move with a sign would double. */
    private static void zerosFromAbove() {
        for (Kind kind : SHAS) {
            digest(kind, 111, 255, 0);
            digest(kind, 128, 255, 0);
            digest(kind, 128, 128, 0);
            digest(kind, 128, 127, 0);
        }
    }

    private static void squareRootsOfTheNinthPrime() {
        WideHash x = Kind.ready();
        for (int bits : new int[] {512, 384, 512, 384}) {
            Kind kind = bits == 512 ? Kind.SHA_512 : Kind.SHA_384;
            x.beginSha(bits);
            DUE.ends("beginSha(" + bits + ") in turn", x, kind);
        }
    }

    private static void sixLongNumbers() {
        WideHash x = Kind.SHA_384.closed();
        int[] due = Kind.SHA_384.digest(new byte[] {5});
        DUE.is("word(10), the high half of the sixth", x.word(10), due[10]);
        DUE.is("word(11), the low half of the sixth", x.word(11), due[11]);
        for (int i = 12; i < 16; i++) {
            DUE.is("word(" + i + "), of a seventh and eighth", x.word(i), 0);
        }
    }

    /** 7 bytes want no byte 0, and 8 want 7 of them. */
    private static void sevenMoreThanAMultipleOf8() {
        printedSip(0, 0x726fdb47, 0xdd0e0e31);
        printedSip(1, 0x74f839c5, 0x93dc67fd);
        printedSip(7, 0xab0200f5, 0x8b01d137);
        printedSip(8, 0x93f5f579, 0x9a932462);
        printedSip(15, 0xa129ca61, 0x49be45e5);
        for (int n = 0; n <= 33; n++) {
            digest(Kind.SIP, n, 1, 1);
        }
    }

    private static void theLowestByteFirst() {
        oneByteAtEachPlace(Kind.SIP, 16);
        oneByteAtEachPlace(Kind.SIP, 7);
    }

    private static void lengthModulo256() {
        for (int n : new int[] {127, 128, 255, 256, 257, 263, 511, 512, 2000, 32767, 32768, 65535, 65536, 900000}) {
            digest(Kind.SIP, n, 0, 0);
        }
    }

    private static void openFromItsBeginningOn() {
        for (Kind kind : Kind.values()) {
            WideHash x = kind.opened();
            DUE.is(kind + " begun: state()", x.state(), kind.state);
            DUE.is(kind + " begun: update(1)", x.update(1), true);
            DUE.is(kind + " with a byte: state()", x.state(), kind.state);
            x.close();
            DUE.is(kind + " closed: state()", x.state(), kind.state + 4);
            DUE.is(kind + " closed: update(1)", x.update(1), false);
            kind.begin(x);
            DUE.is(kind + " begun again: state()", x.state(), kind.state);
            DUE.is(kind + " begun again: update(1)", x.update(1), true);
        }
    }

    private static void pairsAtAnyTime() {
        askPairs("new", new WideHash());
        askPairs("ready", Kind.ready());
        for (Kind kind : Kind.values()) {
            WideHash x = kind.opened();
            x.update(9);
            askPairs(kind + " open", x);
            DUE.stands(kind + " open", x, kind.state, 1);
            x.update(8);
            x.close();
            askPairs(kind + " closed", x);
            DUE.words(kind + " closed", x, kind.digest(new byte[] {9, 8}));
        }
    }

    private static void askPairs(String when, WideHash x) {
        DUE.is(when + ": add64Lo(1, -1, 0, 1)", x.add64Lo(1, -1, 0, 1), 0);
        DUE.is(when + ": add64Hi(1, -1, 0, 1)", x.add64Hi(1, -1, 0, 1), 2);
        DUE.is(when + ": rotr64Hi(1, 2, 32)", x.rotr64Hi(1, 2, 32), 2);
        DUE.is(when + ": rotr64Lo(1, 2, 32)", x.rotr64Lo(1, 2, 32), 1);
    }

    /** The bytes 0 .. n - 1 with the words that sha512sum and sha384sum begin with. */
    private static void printedSha(Kind kind, int n, int word0, int word1) {
        WideHash x = kind.opened();
        x.updates(n, 0, 1);
        x.close();
        DUE.is(kind + " of " + n + " bytes: word(0)", x.word(0), word0);
        DUE.is(kind + " of " + n + " bytes: word(1)", x.word(1), word1);
    }

    /** The bytes 0 .. n - 1 with the digest that the authors of SipHash print. */
    private static void printedSip(int n, int high, int low) {
        WideHash x = Kind.ready();
        for (int i = 0; i < 4; i++) {
            x.sipKey(i, PRINTED_KEY[i]);
        }
        x.beginSip();
        x.updates(n, 0, 1);
        x.close();
        DUE.is("SipHash of " + n + " bytes: word(0)", x.word(0), high);
        DUE.is("SipHash of " + n + " bytes: word(1)", x.word(1), low);
    }

    /** A message of n bytes, in runs as long as updates() takes them, against the digest by other means. */
    private static void digest(Kind kind, int n, int b, int step) {
        WideHash x = kind.opened();
        for (int done = 0; done < n; done += 2000) {
            x.updates(Math.min(2000, n - done), b + done * step, step);
        }
        DUE.ends(kind + " of " + n + " bytes " + b + " + " + step, x, kind, Messages.run(n, b, step));
    }
}
