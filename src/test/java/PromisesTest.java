/** Promises 1 to 11: each sentence that names an edge or a refusal has a method of its own. */
public final class PromisesTest {
    private static final Due DUE = new Due("PromisesTest");

    public static void main(String[] args) {
        DUE.test("Promise 1: No digest", PromisesTest::noDigest);
        DUE.test("Promise 1: the key is 0", PromisesTest::keyIsZero);
        DUE.test("Promise 1: It is not READY", PromisesTest::notReady);

        DUE.test("Promise 2: It is READY", PromisesTest::ready);
        DUE.test("Promise 2: (also if it was)", PromisesTest::readyAlsoIfItWas);
        DUE.test("Promise 2: It is READY, and nothing else", PromisesTest::initChangesNothingElse);

        DUE.test("Promise 3: SHA-512 (bits 512) or SHA-384 (384) begins", PromisesTest::shaBegins);
        DUE.test("Promise 3: begins, with no message", PromisesTest::shaBeginsWithNoMessage);
        DUE.test("Promise 3: false, changing nothing, if it is not READY", PromisesTest::shaNotReady);
        DUE.test("Promise 3: false, changing nothing, if bits are others", PromisesTest::shaOtherBits);
        DUE.test("Promise 3: changing nothing of a digest, if bits are others",
                PromisesTest::shaOtherBitsChangeNothing);

        DUE.test("Promise 4: Half i of the key (0 .. 3: low p, high p, low q, high q)",
                PromisesTest::eachHalfOfTheKey);
        DUE.test("Promise 4: from the next beginSip() on", PromisesTest::fromTheNextBeginSipOn);
        DUE.test("Promise 4: from the next beginSip() on, and with each one behind it", PromisesTest::keyStays);
        DUE.test("Promise 4: false: there is no such half", PromisesTest::noSuchHalf);
        DUE.test("Promise 4: true, whatever there is", PromisesTest::keyAtAnyTime);

        DUE.test("Promise 5: SipHash begins with the key", PromisesTest::sipBeginsWithTheKey);
        DUE.test("Promise 5: begins with the key, with no message", PromisesTest::sipBeginsWithNoMessage);
        DUE.test("Promise 5: false, changing nothing, if it is not READY", PromisesTest::sipNotReady);

        DUE.test("Promise 6: A byte of the message: true", PromisesTest::aByte);
        DUE.test("Promise 6: false, changing nothing: no digest is OPEN", PromisesTest::byteWithoutOpenDigest);
        DUE.test("Promise 6: false, changing nothing: b is not 0 .. 255", PromisesTest::notAByte);

        DUE.test("Promise 7: n bytes, n 0 .. 2000: true", PromisesTest::runLengths);
        DUE.test("Promise 7: b, b + step, b + 2 step, .., each modulo 256 (0 .. 255)", PromisesTest::runModulo256);
        DUE.test("Promise 7: n bytes, n being 0", PromisesTest::runOfNone);
        DUE.test("Promise 7: false, changing nothing: no digest is OPEN", PromisesTest::runWithoutOpenDigest);
        DUE.test("Promise 7: false, changing nothing: n is not 0 .. 2000", PromisesTest::notARunLength);

        DUE.test("Promise 8: The message ends, the digest is CLOSED: true", PromisesTest::closes);
        DUE.test("Promise 8: false: none is OPEN", PromisesTest::closeWithoutOpenDigest);

        DUE.test("Promise 9: Word i of a CLOSED digest, its high halves first", PromisesTest::words);
        DUE.test("Promise 9: of a CLOSED digest. Else 0", PromisesTest::wordOfNoClosedDigest);
        DUE.test("Promise 9: of SHA-512 0 .. 15, of SHA-384 0 .. 11, of SipHash 0, 1. Else 0",
                PromisesTest::noSuchWord);

        DUE.test("Promise 10: How many bytes the message has", PromisesTest::length);
        DUE.test("Promise 10: that began last", PromisesTest::lengthOfTheLast);
        DUE.test("Promise 10: 0 without one", PromisesTest::lengthWithoutOne);

        DUE.test("Promise 11: 0 no digest, 1 SHA-512, 2 SHA-384, 3 SipHash; and 4 more if it is CLOSED",
                PromisesTest::state);
        DUE.end();
    }

    private static void noDigest() {
        WideHash x = new WideHash();
        DUE.stands("new", x, 0, 0);
        DUE.words("new", x);
        DUE.is("new: update(1)", x.update(1), false);
        DUE.is("new: updates(1, 1, 1)", x.updates(1, 1, 1), false);
        DUE.is("new: close()", x.close(), false);
    }

    private static void keyIsZero() {
        // The digest of no bytes with key 0, as other programs print it.
        WideHash x = Kind.SIP.opened();
        x.close();
        DUE.words("key 0", x, 0x1e924b9d, 0x737700d7);
        // One object's key is no other's.
        Kind.ready().sipKey(0, 1);
        DUE.ends("key 0 beside another object", Kind.SIP.opened(), Kind.SIP);
    }

    private static void notReady() {
        for (Kind kind : Kind.values()) {
            DUE.is("new: beginning of " + kind, kind.begin(new WideHash()), false);
        }
        Kind.ready();
        DUE.is("new beside a ready one: beginSip()", new WideHash().beginSip(), false);
    }

    private static void ready() {
        for (Kind kind : Kind.values()) {
            WideHash x = new WideHash();
            kind.begin(x);
            x.init();
            DUE.stands("ready", x, 0, 0);
            DUE.is("ready: beginning of " + kind, kind.begin(x), true);
        }
    }

    private static void readyAlsoIfItWas() {
        for (Kind kind : Kind.values()) {
            WideHash x = Kind.ready();
            x.init();
            DUE.is("ready twice: beginning of " + kind, kind.begin(x), true);
            x.init();
            x.init();
            DUE.is("ready four times: beginning of " + kind, kind.begin(x), true);
        }
    }

    /** No other change stands there: a digest, its message and the key stay as they are. */
    private static void initChangesNothingElse() {
        int[] key = {0, 7, 99, 0};
        for (Kind kind : Kind.values()) {
            WideHash x = new WideHash();
            x.sipKey(1, 7);
            x.sipKey(2, 99);
            x.init();
            kind.begin(x);
            x.update(7);
            x.init();
            DUE.stands(kind + " open", x, kind.state, 1);
            DUE.is(kind + " open: update(8)", x.update(8), true);
            DUE.ends(kind + " open", x, kind, key, new byte[] {7, 8});
            x.init();
            DUE.stands(kind + " closed", x, kind.state + 4, 2);
            DUE.words(kind + " closed", x, kind.digest(key, new byte[] {7, 8}));
            x.beginSip();
            DUE.ends("the key", x, Kind.SIP, key, new byte[0]);
        }
    }

    private static void shaBegins() {
        WideHash x = Kind.ready();
        DUE.is("beginSha(512)", x.beginSha(512), true);
        DUE.stands("beginSha(512)", x, 1, 0);
        DUE.is("beginSha(384)", x.beginSha(384), true);
        DUE.stands("beginSha(384)", x, 2, 0);
    }

    private static void shaBeginsWithNoMessage() {
        for (Kind before : Kind.values()) {
            beginsWithNoMessage(before, Kind.SHA_512);
            beginsWithNoMessage(before, Kind.SHA_384);
        }
    }

    /** Whether the digest before is open or closed, and wherever its block stood. */
    private static void beginsWithNoMessage(Kind before, Kind kind) {
        for (int n = 0; n < 260; n++) {
            WideHash x = before.opened();
            x.updates(n / 2, 200, 3);
            if (n % 2 == 0) {
                x.close();
            }
            String when = kind + " behind " + before + " with " + n / 2 + " bytes";
            DUE.is(when + ": beginning", kind.begin(x), true);
            DUE.stands(when, x, kind.state, 0);
            x.updates(n % 3, 9, 1);
            DUE.ends(when, x, kind, Messages.run(n % 3, 9, 1));
        }
    }

    private static void shaNotReady() {
        for (int bits : new int[] {512, 384, 0}) {
            WideHash x = new WideHash();
            x.sipKey(0, 6);
            DUE.is("not ready: beginSha(" + bits + ")", x.beginSha(bits), false);
            DUE.stands("not ready", x, 0, 0);
            DUE.is("not ready: update(1)", x.update(1), false);
            DUE.is("not ready: close()", x.close(), false);
            DUE.words("not ready", x);
            DUE.is("not ready, again: beginSha(" + bits + ")", x.beginSha(bits), false);
            x.init();
            x.beginSip();
            DUE.ends("the key", x, Kind.SIP, new int[] {6, 0, 0, 0}, new byte[0]);
        }
    }

    private static final int[] OTHER_BITS = {0, 1, 2, 3, -1, 64, 224, 256, 383, 385, 511, 513, 1024, -384, -512,
        384 + 65536, 512 + 65536, Integer.MIN_VALUE + 384, Integer.MIN_VALUE + 512};

    private static void shaOtherBits() {
        for (int bits : OTHER_BITS) {
            otherBits(bits);
        }
        for (int bits : Due.FAR) {
            otherBits(bits);
        }
    }

    private static void otherBits(int bits) {
        WideHash x = Kind.ready();
        DUE.is("beginSha(" + bits + ")", x.beginSha(bits), false);
        DUE.stands("beginSha(" + bits + ")", x, 0, 0);
        DUE.is("beginSha(" + bits + "), update(1)", x.update(1), false);
        DUE.is("beginSha(" + bits + "), close()", x.close(), false);
        DUE.is("beginSha(" + bits + "), beginSha(512)", x.beginSha(512), true);
    }

    private static void shaOtherBitsChangeNothing() {
        for (Kind kind : Kind.values()) {
            for (int bits : OTHER_BITS) {
                WideHash x = kind.opened();
                x.update(5);
                DUE.is(kind + " open: beginSha(" + bits + ")", x.beginSha(bits), false);
                DUE.stands(kind + " open", x, kind.state, 1);
                x.update(6);
                DUE.ends(kind + " open", x, kind, new byte[] {5, 6});
                DUE.is(kind + " closed: beginSha(" + bits + ")", x.beginSha(bits), false);
                DUE.stands(kind + " closed", x, kind.state + 4, 2);
                DUE.words(kind + " closed", x, kind.digest(new byte[] {5, 6}));
            }
        }
    }

    private static void eachHalfOfTheKey() {
        for (int i = 0; i < 4; i++) {
            for (int w : new int[] {1, -1, 0x12345678, Integer.MIN_VALUE, Integer.MAX_VALUE}) {
                WideHash x = Kind.ready();
                DUE.is("sipKey(" + i + ", " + w + ")", x.sipKey(i, w), true);
                x.beginSip();
                int[] key = new int[4];
                key[i] = w;
                DUE.ends("sipKey(" + i + ", " + w + ")", x, Kind.SIP, key, new byte[0]);
            }
        }
    }

    private static void fromTheNextBeginSipOn() {
        for (int i = 0; i < 4; i++) {
            WideHash x = Kind.SIP.opened();
            x.sipKey(i, 77);
            x.updates(9, 1, 1);
            x.sipKey(i, 78);
            DUE.ends("half " + i + " set when open", x, Kind.SIP, Messages.run(9, 1, 1));
            x.sipKey(i, 79);
            DUE.words("half " + i + " set when closed", x, Kind.SIP.digest(Messages.run(9, 1, 1)));
            x.beginSip();
            int[] key = new int[4];
            key[i] = 79;
            DUE.ends("half " + i + " with the next beginSip()", x, Kind.SIP, key, new byte[0]);
        }
    }

    private static void keyStays() {
        int[] key = {1, 2, 3, 4};
        WideHash x = Kind.ready();
        for (int i = 0; i < 4; i++) {
            x.sipKey(i, key[i]);
        }
        for (Kind between : Kind.values()) {
            between.begin(x);
            x.updates(200, 1, 1);
            x.close();
            x.beginSip();
            DUE.ends("behind " + between, x, Kind.SIP, key, new byte[0]);
        }
        x.sipKey(2, 0);
        x.beginSip();
        DUE.ends("one half set to 0", x, Kind.SIP, new int[] {1, 2, 0, 4}, new byte[0]);
    }

    private static void noSuchHalf() {
        for (int i : new int[] {-1, -2, -4, 4, 5, 8}) {
            noSuchHalf(i);
        }
        for (int i : Due.FAR) {
            noSuchHalf(i);
        }
    }

    private static void noSuchHalf(int i) {
        WideHash x = new WideHash();
        DUE.is("new: sipKey(" + i + ", 1)", x.sipKey(i, 1), false);
        x.init();
        DUE.is("ready: sipKey(" + i + ", 0)", x.sipKey(i, 0), false);
        x.beginSip();
        DUE.is("open: sipKey(" + i + ", 1)", x.sipKey(i, 1), false);
        DUE.ends("after sipKey(" + i + ", 1)", x, Kind.SIP);
        DUE.is("closed: sipKey(" + i + ", 1)", x.sipKey(i, 1), false);
        x.beginSip();
        DUE.ends("the key after sipKey(" + i + ", 1)", x, Kind.SIP);
    }

    /** No other refusal stands there: a half is taken in every state, and changes only the key. */
    private static void keyAtAnyTime() {
        WideHash fresh = new WideHash();
        takesKey("new", fresh);
        DUE.stands("new, with a key", fresh, 0, 0);
        DUE.is("new, with a key: beginSip()", fresh.beginSip(), false);
        takesKey("ready", Kind.ready());
        for (Kind kind : Kind.values()) {
            WideHash x = kind.opened();
            x.update(5);
            takesKey(kind + " open", x);
            DUE.stands(kind + " open", x, kind.state, 1);
            DUE.ends(kind + " open", x, kind, (byte) 5);
            takesKey(kind + " closed", x);
            DUE.stands(kind + " closed", x, kind.state + 4, 1);
            DUE.words(kind + " closed", x, kind.digest(new byte[] {5}));
        }
    }

    private static void takesKey(String when, WideHash x) {
        for (int i = 0; i < 4; i++) {
            for (int w : Due.FAR) {
                DUE.is(when + ": sipKey(" + i + ", " + w + ")", x.sipKey(i, w), true);
            }
        }
    }

    private static void sipBeginsWithTheKey() {
        int[] key = {-1, 123456789, 77, Integer.MIN_VALUE};
        WideHash x = new WideHash();
        for (int i = 0; i < 4; i++) {
            x.sipKey(i, key[i]);
        }
        x.init();
        DUE.is("beginSip()", x.beginSip(), true);
        DUE.stands("beginSip()", x, 3, 0);
        DUE.ends("beginSip()", x, Kind.SIP, key, new byte[0]);
    }

    private static void sipBeginsWithNoMessage() {
        for (Kind before : Kind.values()) {
            beginsWithNoMessage(before, Kind.SIP);
        }
    }

    private static void sipNotReady() {
        WideHash x = new WideHash();
        x.sipKey(0, 6);
        DUE.is("not ready: beginSip()", x.beginSip(), false);
        DUE.stands("not ready", x, 0, 0);
        DUE.is("not ready: update(1)", x.update(1), false);
        DUE.is("not ready: close()", x.close(), false);
        DUE.words("not ready", x);
        DUE.is("not ready, again: beginSip()", x.beginSip(), false);
        x.init();
        x.beginSip();
        DUE.ends("the key", x, Kind.SIP, new int[] {6, 0, 0, 0}, new byte[0]);
    }

    private static void aByte() {
        for (Kind kind : Kind.values()) {
            WideHash x = kind.opened();
            for (int b = 0; b <= 255; b++) {
                DUE.is(kind + ": update(" + b + ")", x.update(b), true);
            }
            DUE.ends(kind + " with each byte", x, kind, Messages.run(256, 0, 1));
            onlyByte(kind, 0);
            onlyByte(kind, 255);
        }
    }

    private static void onlyByte(Kind kind, int b) {
        WideHash x = kind.opened();
        DUE.is(kind + ": update(" + b + ")", x.update(b), true);
        DUE.ends(kind + " with a byte " + b, x, kind, (byte) b);
    }

    private static void byteWithoutOpenDigest() {
        for (int b : new int[] {0, 1, 255, 256, -1}) {
            WideHash x = new WideHash();
            DUE.is("new: update(" + b + ")", x.update(b), false);
            DUE.stands("new", x, 0, 0);
            x.init();
            DUE.is("ready: update(" + b + ")", x.update(b), false);
            DUE.stands("ready", x, 0, 0);
            x.beginSip();
            DUE.ends("a message behind a refused byte", x, Kind.SIP);
            for (Kind kind : Kind.values()) {
                WideHash y = kind.closed();
                DUE.is(kind + " closed: update(" + b + ")", y.update(b), false);
                staysClosed(kind, y);
            }
        }
    }

    private static void staysClosed(Kind kind, WideHash x) {
        DUE.stands(kind + " closed", x, kind.state + 4, 1);
        DUE.words(kind + " closed", x, kind.digest(new byte[] {5}));
        kind.begin(x);
        DUE.ends(kind + " begun anew", x, kind);
    }

    private static void notAByte() {
        for (Kind kind : Kind.values()) {
            for (int b : new int[] {-1, -2, -128, -255, 256, 257, 511, 512}) {
                notAByte(kind, b);
            }
            for (int b : Due.FAR) {
                notAByte(kind, b);
            }
        }
    }

    private static void notAByte(Kind kind, int b) {
        WideHash x = kind.opened();
        x.update(3);
        DUE.is(kind + ": update(" + b + ")", x.update(b), false);
        DUE.stands(kind + ", update(" + b + ")", x, kind.state, 1);
        x.update(4);
        DUE.ends(kind + ", update(" + b + ")", x, kind, new byte[] {3, 4});
    }

    private static void runLengths() {
        for (Kind kind : Kind.values()) {
            for (int n : new int[] {0, 1, 2, 127, 128, 129, 255, 256, 1999, 2000}) {
                runIs(kind, n, 1, 1);
            }
            WideHash x = kind.opened();
            DUE.is(kind + ": updates(2000, 7, 0)", x.updates(2000, 7, 0), true);
            DUE.is(kind + ": updates(2000, 7, 0)", x.updates(2000, 7, 0), true);
            DUE.ends(kind + " of 4000 bytes", x, kind, Messages.run(4000, 7, 0));
        }
    }

    private static void runModulo256() {
        int[] edges = {0, 1, -1, 127, 128, -128, 255, 256, 257, -255, -256, -257, 1000003, 1 << 24,
            Integer.MAX_VALUE, Integer.MAX_VALUE - 255, Integer.MIN_VALUE, Integer.MIN_VALUE + 1};
        for (Kind kind : Kind.values()) {
            for (int b : edges) {
                for (int step : edges) {
                    runIs(kind, 3, b, step);
                    runIs(kind, 300, b, step);
                }
            }
        }
        // 250, 253, 0, 3, and downwards 2, 255, 252: written out, so that no reckoning stands between.
        WideHash x = Kind.SHA_512.opened();
        x.updates(4, 250, 3);
        x.updates(3, 2, -3);
        DUE.ends("written out", x, Kind.SHA_512, new byte[] {-6, -3, 0, 3, 2, -1, -4});
    }

    private static void runIs(Kind kind, int n, int b, int step) {
        String call = kind + ": updates(" + n + ", " + b + ", " + step + ")";
        WideHash x = kind.opened();
        DUE.is(call, x.updates(n, b, step), true);
        DUE.stands(call, x, kind.state, n);
        DUE.ends(call, x, kind, Messages.run(n, b, step));
    }

    private static void runOfNone() {
        for (Kind kind : Kind.values()) {
            for (int b : Due.FAR) {
                WideHash x = kind.opened();
                DUE.is(kind + ": updates(0, " + b + ", 1)", x.updates(0, b, 1), true);
                x.update(2);
                DUE.is(kind + ": updates(0, 1, " + b + ")", x.updates(0, 1, b), true);
                DUE.stands(kind + " after none", x, kind.state, 1);
                DUE.ends(kind + " after none", x, kind, (byte) 2);
            }
        }
    }

    private static void runWithoutOpenDigest() {
        for (int n : new int[] {0, 1, 128, 2000, 2001, -1}) {
            WideHash x = new WideHash();
            DUE.is("new: updates(" + n + ", 1, 1)", x.updates(n, 1, 1), false);
            DUE.stands("new", x, 0, 0);
            x.init();
            DUE.is("ready: updates(" + n + ", 1, 1)", x.updates(n, 1, 1), false);
            DUE.stands("ready", x, 0, 0);
            x.beginSha(512);
            DUE.ends("a message behind a refused run", x, Kind.SHA_512);
            for (Kind kind : Kind.values()) {
                WideHash y = kind.closed();
                DUE.is(kind + " closed: updates(" + n + ", 1, 1)", y.updates(n, 1, 1), false);
                staysClosed(kind, y);
            }
        }
    }

    private static void notARunLength() {
        for (Kind kind : Kind.values()) {
            for (int n : new int[] {-1, -2, -2000, 2001, 2002, 4000}) {
                notARunLength(kind, n);
            }
            for (int n : Due.FAR) {
                notARunLength(kind, n);
            }
        }
    }

    private static void notARunLength(Kind kind, int n) {
        String call = kind + ": updates(" + n + ", 1, 1)";
        WideHash x = kind.opened();
        x.updates(2, 3, 1);
        DUE.is(call, x.updates(n, 1, 1), false);
        DUE.stands(call, x, kind.state, 2);
        x.update(5);
        DUE.ends(call, x, kind, new byte[] {3, 4, 5});
    }

    private static void closes() {
        for (Kind kind : Kind.values()) {
            DUE.ends(kind + " with no message", kind.opened(), kind);
            WideHash x = kind.opened();
            x.updates(300, 1, 1);
            DUE.ends(kind + " of 300 bytes", x, kind, Messages.run(300, 1, 1));
        }
    }

    private static void closeWithoutOpenDigest() {
        WideHash x = new WideHash();
        DUE.is("new: close()", x.close(), false);
        DUE.stands("new", x, 0, 0);
        x.init();
        DUE.is("ready: close()", x.close(), false);
        DUE.stands("ready", x, 0, 0);
        DUE.words("ready", x);
        for (Kind kind : Kind.values()) {
            WideHash y = kind.closed();
            DUE.is(kind + " closed: close()", y.close(), false);
            DUE.is(kind + " closed: close(), again", y.close(), false);
            staysClosed(kind, y);
            DUE.is(kind + " closed anew: close()", y.close(), false);
        }
    }

    private static void words() {
        WideHash x = Kind.SHA_512.opened();
        x.updates(3, 'a', 1);
        x.close();
        DUE.words("SHA-512 of abc, as FIPS 180 prints it", x,
                0xddaf35a1, 0x93617aba, 0xcc417349, 0xae204131, 0x12e6fa4e, 0x89a97ea2, 0x0a9eeee6, 0x4b55d39a,
                0x2192992a, 0x274fc1a8, 0x36ba3c23, 0xa3feebbd, 0x454d4423, 0x643ce80e, 0x2a9ac94f, 0xa54ca49f);
        x.beginSha(384);
        x.updates(3, 'a', 1);
        x.close();
        DUE.words("SHA-384 of abc, as FIPS 180 prints it", x,
                0xcb00753f, 0x45a35e8b, 0xb5a03d69, 0x9ac65007, 0x272c32ab, 0x0eded163,
                0x1a8b605a, 0x43ff5bed, 0x8086072b, 0xa1e7cc23, 0x58baeca1, 0x34c825a7);
        x.beginSip();
        x.close();
        DUE.words("SipHash of no bytes with key 0", x, 0x1e924b9d, 0x737700d7);
        DUE.words("the same words, asked again", x, 0x1e924b9d, 0x737700d7);
    }

    private static void wordOfNoClosedDigest() {
        DUE.words("new", new WideHash());
        DUE.words("ready", Kind.ready());
        for (Kind kind : Kind.values()) {
            WideHash x = kind.opened();
            DUE.words(kind + " begun", x);
            x.updates(130, 1, 1);
            DUE.words(kind + " with a message", x);
            DUE.ends(kind + ", asked before its end", x, kind, Messages.run(130, 1, 1));
            kind.begin(x);
            DUE.words(kind + " begun behind a closed one", x);
        }
    }

    private static void noSuchWord() {
        for (Kind kind : Kind.values()) {
            WideHash x = kind.closed();
            int last = kind.words - 1;
            DUE.is(kind + ": word(" + last + ")", x.word(last), kind.digest(new byte[] {5})[last]);
            DUE.is(kind + ": word(" + (last + 1) + ")", x.word(last + 1), 0);
            DUE.is(kind + ": word(-1)", x.word(-1), 0);
            for (int i = last + 1; i < 200; i++) {
                DUE.is(kind + ": word(" + i + ")", x.word(i), 0);
                DUE.is(kind + ": word(" + -i + ")", x.word(-i), 0);
            }
            DUE.words(kind + ", and far numbers", x, kind.digest(new byte[] {5}));
        }
    }

    private static void length() {
        for (Kind kind : Kind.values()) {
            WideHash x = kind.opened();
            DUE.is(kind + " begun: length()", x.length(), 0);
            x.update(1);
            DUE.is(kind + ", a byte: length()", x.length(), 1);
            x.updates(2000, 1, 1);
            DUE.is(kind + ", a run: length()", x.length(), 2001);
            x.updates(0, 1, 1);
            x.update(256);
            x.updates(2001, 1, 1);
            DUE.is(kind + ", refused calls: length()", x.length(), 2001);
            x.close();
            DUE.is(kind + " closed: length()", x.length(), 2001);
        }
    }

    private static void lengthOfTheLast() {
        for (Kind before : Kind.values()) {
            for (Kind kind : Kind.values()) {
                WideHash x = before.closed();
                DUE.is(before + " closed: length()", x.length(), 1);
                kind.begin(x);
                DUE.is(kind + " begun: length()", x.length(), 0);
                x.updates(3, 1, 1);
                x.beginSha(0);
                DUE.is(kind + ", none other begun: length()", x.length(), 3);
                before.begin(x);
                DUE.is(before + " begun: length()", x.length(), 0);
            }
        }
    }

    private static void lengthWithoutOne() {
        WideHash x = new WideHash();
        DUE.is("new: length()", x.length(), 0);
        x.update(1);
        x.beginSip();
        x.updates(5, 1, 1);
        DUE.is("not ready: length()", x.length(), 0);
        x.init();
        x.update(1);
        x.updates(5, 1, 1);
        x.close();
        DUE.is("ready: length()", x.length(), 0);
    }

    private static void state() {
        WideHash x = new WideHash();
        DUE.is("new: state()", x.state(), 0);
        x.close();
        DUE.is("new, close(): state()", x.state(), 0);
        x.init();
        x.close();
        DUE.is("ready, close(): state()", x.state(), 0);
        x.beginSha(512);
        DUE.is("SHA-512: state()", x.state(), 1);
        x.close();
        DUE.is("SHA-512 closed: state()", x.state(), 5);
        x.close();
        DUE.is("SHA-512 closed twice: state()", x.state(), 5);
        x.beginSha(384);
        DUE.is("SHA-384: state()", x.state(), 2);
        x.close();
        DUE.is("SHA-384 closed: state()", x.state(), 6);
        x.beginSip();
        DUE.is("SipHash: state()", x.state(), 3);
        x.close();
        DUE.is("SipHash closed: state()", x.state(), 7);
    }
}
