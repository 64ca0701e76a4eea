/** Promises 1 to 11: which calls are taken when, what they change, and what wrong inputs answer. */
public final class StepsTest {
    private static final Due DUE = new Due("StepsTest");

    /** The state answers of SHA-512, SHA-384 and SipHash while they are open. */
    private static final int[] KINDS = {1, 2, 3};

    private static final int[] FAR = {Integer.MIN_VALUE, Integer.MIN_VALUE + 1, -1000, 1000, Integer.MAX_VALUE};

    public static void main(String[] args) {
        newObject();
        init();
        initChangesNothingElse();
        wrongBits();
        keyHalves();
        for (int kind : KINDS) {
            wrongBytes(kind);
            wrongRuns(kind);
            life(kind);
            refusedBeginningsChangeNothing(kind);
            for (int next : KINDS) {
                beginningAgain(kind, next);
            }
        }
        DUE.end();
    }

    private static void newObject() {
        WideHash x = new WideHash();
        noDigest(x, "new");
        DUE.is("new: beginSha(512)", x.beginSha(512), false);
        DUE.is("new: beginSha(384)", x.beginSha(384), false);
        DUE.is("new: beginSha(0)", x.beginSha(0), false);
        DUE.is("new: beginSip()", x.beginSip(), false);
        noDigest(x, "new, after refused beginnings");
        x.init();
        x.beginSip();
        x.close();
        words(x, "new: key 0", Reference.sip(new int[4], new byte[0]));
    }

    private static void init() {
        WideHash x = new WideHash();
        x.init();
        noDigest(x, "ready");
        DUE.is("ready: beginSha(512)", x.beginSha(512), true);
        x = new WideHash();
        x.init();
        x.init();
        DUE.is("ready twice: beginSip()", x.beginSip(), true);
    }

    private static void initChangesNothingElse() {
        for (int kind : KINDS) {
            WideHash x = new WideHash();
            x.sipKey(2, 99);
            x.init();
            begin(x, kind);
            x.update(7);
            x.init();
            DUE.is("init() when open: state()", x.state(), kind);
            DUE.is("init() when open: length()", x.length(), 1);
            DUE.is("init() when open: update(8)", x.update(8), true);
            x.close();
            x.init();
            DUE.is("init() when closed: state()", x.state(), kind + 4);
            DUE.is("init() when closed: length()", x.length(), 2);
            words(x, "init() when closed", reference(kind, new int[] {0, 0, 99, 0}, new byte[] {7, 8}));
        }
    }

    private static void wrongBits() {
        int[] wrong = {0, 1, 2, 3, -1, 224, 256, 383, 385, 511, 513, 1024, -384, -512,
            Integer.MIN_VALUE, Integer.MAX_VALUE};
        for (int bits : wrong) {
            WideHash x = new WideHash();
            x.init();
            DUE.is("beginSha(" + bits + ")", x.beginSha(bits), false);
            noDigest(x, "after beginSha(" + bits + ")");
        }
    }

    private static void keyHalves() {
        int[] key = {-1, 123456789, 77, Integer.MIN_VALUE};
        WideHash x = new WideHash();
        for (int i = 0; i < key.length; i++) {
            DUE.is("sipKey(" + i + ") before init()", x.sipKey(i, key[i]), true);
        }
        DUE.is("sipKey(4, 1)", x.sipKey(4, 1), false);
        DUE.is("sipKey(-1, 1)", x.sipKey(-1, 1), false);
        for (int i : FAR) {
            DUE.is("sipKey(" + i + ", 1)", x.sipKey(i, 1), false);
        }
        noDigest(x, "after sipKey");
        x.init();
        x.beginSip();
        int[] later = {4, 3, 2, 1};
        for (int i = 0; i < later.length; i++) {
            DUE.is("sipKey(" + i + ") when open", x.sipKey(i, later[i]), true);
        }
        x.update(1);
        x.close();
        words(x, "the key at the beginning", Reference.sip(key, new byte[] {1}));
        DUE.is("sipKey(0, 9) when closed", x.sipKey(0, 9), true);
        words(x, "a key set behind the end", Reference.sip(key, new byte[] {1}));
        later[0] = 9;
        x.beginSha(512);
        x.beginSip();
        x.close();
        words(x, "the next key", Reference.sip(later, new byte[0]));
    }

    private static void wrongBytes(int kind) {
        WideHash x = opened(kind);
        DUE.is("update(0)", x.update(0), true);
        DUE.is("update(255)", x.update(255), true);
        DUE.is("update(256)", x.update(256), false);
        DUE.is("update(-1)", x.update(-1), false);
        for (int b : FAR) {
            DUE.is("update(" + b + ")", x.update(b), false);
        }
        DUE.is("length() after wrong bytes", x.length(), 2);
        x.close();
        words(x, "after wrong bytes", reference(kind, new int[4], new byte[] {0, -1}));
    }

    private static void wrongRuns(int kind) {
        WideHash x = opened(kind);
        DUE.is("updates(3, 1, 1)", x.updates(3, 1, 1), true);
        DUE.is("updates(2001, 1, 1)", x.updates(2001, 1, 1), false);
        DUE.is("updates(-1, 1, 1)", x.updates(-1, 1, 1), false);
        DUE.is("updates(MIN, 1, 1)", x.updates(Integer.MIN_VALUE, 1, 1), false);
        DUE.is("updates(MAX, 1, 1)", x.updates(Integer.MAX_VALUE, 1, 1), false);
        DUE.is("updates(0, 1, 1)", x.updates(0, 1, 1), true);
        DUE.is("updates(0, -1, -1)", x.updates(0, -1, -1), true);
        DUE.is("length() after wrong runs", x.length(), 3);
        DUE.is("state() after wrong runs", x.state(), kind);
        x.close();
        words(x, "after wrong runs", reference(kind, new int[4], new byte[] {1, 2, 3}));
    }

    private static void life(int kind) {
        WideHash x = opened(kind);
        DUE.is("open: state()", x.state(), kind);
        DUE.is("open: length()", x.length(), 0);
        noWords(x, "open");
        x.updates(300, 1, 1);
        DUE.is("open: length()", x.length(), 300);
        noWords(x, "open with bytes");
        DUE.is("open: close()", x.close(), true);
        int[] due = reference(kind, new int[4], Messages.run(300, 1, 1));
        for (int turn = 0; turn < 2; turn++) {
            DUE.is("closed: state()", x.state(), kind + 4);
            DUE.is("closed: length()", x.length(), 300);
            words(x, "closed", due);
            DUE.is("closed: update(1)", x.update(1), false);
            DUE.is("closed: updates(1, 1, 1)", x.updates(1, 1, 1), false);
            DUE.is("closed: updates(0, 1, 1)", x.updates(0, 1, 1), false);
            DUE.is("closed: close()", x.close(), false);
        }
    }

    private static void refusedBeginningsChangeNothing(int kind) {
        WideHash x = opened(kind);
        x.update(5);
        DUE.is("open: beginSha(256)", x.beginSha(256), false);
        DUE.is("open: state() after it", x.state(), kind);
        DUE.is("open: length() after it", x.length(), 1);
        x.close();
        DUE.is("closed: beginSha(0)", x.beginSha(0), false);
        DUE.is("closed: state() after it", x.state(), kind + 4);
        DUE.is("closed: length() after it", x.length(), 1);
        words(x, "closed after beginSha(0)", reference(kind, new int[4], new byte[] {5}));
    }

    /** A digest begins anew, whether the one before is open or closed and wherever its block stood. */
    private static void beginningAgain(int kind, int next) {
        for (int n = 0; n < 140; n++) {
            WideHash x = opened(kind);
            x.updates(n, 200, 3);
            if (n % 2 == 0) {
                x.close();
            }
            begin(x, next);
            DUE.is("begun again: state()", x.state(), next);
            DUE.is("begun again: length()", x.length(), 0);
            noWords(x, "begun again");
            x.updates(n, 9, 1);
            x.close();
            words(x, "begun again", reference(next, new int[4], Messages.run(n, 9, 1)));
        }
    }

    private static void noDigest(WideHash x, String when) {
        DUE.is(when + ": state()", x.state(), 0);
        DUE.is(when + ": length()", x.length(), 0);
        DUE.is(when + ": update(1)", x.update(1), false);
        DUE.is(when + ": updates(1, 1, 1)", x.updates(1, 1, 1), false);
        DUE.is(when + ": updates(0, 0, 0)", x.updates(0, 0, 0), false);
        DUE.is(when + ": close()", x.close(), false);
        DUE.is(when + ": state() after close()", x.state(), 0);
        noWords(x, when);
    }

    private static void noWords(WideHash x, String when) {
        words(x, when, new int[0]);
    }

    private static void words(WideHash x, String when, int[] due) {
        for (int i = -3; i < 40; i++) {
            int want = i >= 0 && i < due.length ? due[i] : 0;
            DUE.is(when + ": word(" + i + ")", x.word(i), want);
        }
        for (int i : FAR) {
            DUE.is(when + ": word(" + i + ")", x.word(i), 0);
        }
    }

    private static WideHash opened(int kind) {
        WideHash x = new WideHash();
        x.init();
        begin(x, kind);
        return x;
    }

    private static void begin(WideHash x, int kind) {
        boolean begun = kind == 3 ? x.beginSip() : x.beginSha(kind == 1 ? 512 : 384);
        DUE.is("beginning of kind " + kind, begun, true);
    }

    private static int[] reference(int kind, int[] key, byte[] message) {
        return kind == 3 ? Reference.sip(key, message) : Reference.sha(kind == 1 ? 512 : 384, message);
    }
}
