/** The three digests: how each begins, what state() and word() have of it, and its words by other means. */
enum Kind {
    SHA_512(1, 16),
    SHA_384(2, 12),
    SIP(3, 2);

    static final int[] NO_KEY = new int[4];

    /** What state() answers while it is open. */
    final int state;
    final int words;

    Kind(int state, int words) {
        this.state = state;
        this.words = words;
    }

    boolean begin(WideHash x) {
        switch (this) {
            case SHA_512:
                return x.beginSha(512);
            case SHA_384:
                return x.beginSha(384);
            default:
                return x.beginSip();
        }
    }

    /** A new object, ready, with a digest of this kind that has just begun. */
    WideHash opened() {
        WideHash x = ready();
        begin(x);
        return x;
    }

    /** A new object with a digest of this kind that has ended with one byte 5. */
    WideHash closed() {
        WideHash x = opened();
        x.update(5);
        x.close();
        return x;
    }

    /** The words that are due; the key is as sipKey() numbers it, and only SipHash looks at it. */
    int[] digest(int[] key, byte[] message) {
        return this == SIP ? Reference.sip(key, message) : Reference.sha(words * 32, message);
    }

    int[] digest(byte[] message) {
        return digest(NO_KEY, message);
    }

    static WideHash ready() {
        WideHash x = new WideHash();
        x.init();
        return x;
    }
}
