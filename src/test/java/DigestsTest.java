import java.io.ByteArrayOutputStream;
import java.util.Arrays;
import java.util.Random;

/** Promises 3 to 9 with many messages: known digests, every length about a block, runs and splits. */
public final class DigestsTest {
    private static final Due DUE = new Due("DigestsTest");
    private static final int[] KINDS = {512, 384, 64};

    public static void main(String[] args) {
        known();
        knownSip();
        everyLength();
        runs();
        splits();
        longest();
        DUE.end();
    }

    /** The digests of "abc" that the standard FIPS 180 prints. */
    private static void known() {
        DUE.same("SHA-512 of abc", hex(bytewise(512, new int[4], "abc".getBytes())),
                "ddaf35a193617abacc417349ae20413112e6fa4e89a97ea20a9eeee64b55d39a"
                + "2192992a274fc1a836ba3c23a3feebbd454d4423643ce80e2a9ac94fa54ca49f");
        DUE.same("SHA-384 of abc", hex(bytewise(384, new int[4], "abc".getBytes())),
                "cb00753f45a35e8bb5a03d699ac65007272c32ab0eded163"
                + "1a8b605a43ff5bed8086072ba1e7cc2358baeca134c825a7");
    }

    /** The digest that the paper on SipHash prints: key bytes 0 .. 15, message bytes 0 .. 14. */
    private static void knownSip() {
        int[] key = {0x03020100, 0x07060504, 0x0b0a0908, 0x0f0e0d0c};
        byte[] message = Messages.run(15, 0, 1);
        DUE.same("SipHash of the paper", hex(bytewise(64, key, message)), "a129ca6149be45e5");
        DUE.same("the reference itself", hex(Reference.sip(key, message)), "a129ca6149be45e5");
    }

    private static void everyLength() {
        int[] key = {1, -2, 0x7fffffff, 0x80000000};
        for (int kind : KINDS) {
            for (int n = 0; n <= 530; n++) {
                byte[] message = Messages.run(n, 250, 7);
                String what = kind + " bits, length " + n;
                DUE.same(what, hex(runwise(kind, key, n, 250, 7)), hex(reference(kind, key, message)));
            }
            for (int n = 0; n <= 270; n++) {
                byte[] message = Messages.run(n, 3, 91);
                String what = kind + " bits bytewise, length " + n;
                DUE.same(what, hex(bytewise(kind, key, message)), hex(reference(kind, key, message)));
            }
        }
    }

    private static void runs() {
        int[] edges = {0, 1, -1, 255, 256, 257, -255, -256, -257, 128, 1000003,
            Integer.MAX_VALUE, Integer.MIN_VALUE, Integer.MIN_VALUE + 1};
        for (int kind : KINDS) {
            for (int b : edges) {
                for (int step : edges) {
                    for (int n : new int[] {1, 2, 1999, 2000}) {
                        String what = kind + " bits, updates(" + n + ", " + b + ", " + step + ")";
                        int[] due = reference(kind, new int[4], Messages.run(n, b, step));
                        DUE.same(what, hex(runwise(kind, new int[4], n, b, step)), hex(due));
                    }
                }
            }
        }
    }

    /** Messages in many pieces on one object, the seed being fixed so that each run is the same. */
    private static void splits() {
        Random random = new Random(20261115);
        WideHash x = new WideHash();
        x.init();
        for (int turn = 0; turn < 300; turn++) {
            int kind = KINDS[random.nextInt(3)];
            int[] key = random.ints(4).toArray();
            begin(x, kind, key);
            ByteArrayOutputStream message = new ByteArrayOutputStream();
            int pieces = random.nextInt(12);
            for (int i = 0; i < pieces; i++) {
                piece(x, random, message);
            }
            DUE.is("length() of pieces", x.length(), message.size());
            x.close();
            int[] due = reference(kind, key, message.toByteArray());
            DUE.same(kind + " bits, pieces of turn " + turn, hex(words(x, kind)), hex(due));
            // An object is promised 512 calls: a new one comes long before.
            if (turn % 5 == 4) {
                x = new WideHash();
                x.init();
            }
        }
    }

    private static void piece(WideHash x, Random random, ByteArrayOutputStream message) {
        if (random.nextBoolean()) {
            int b = random.nextInt(256);
            DUE.is("update in pieces", x.update(b), true);
            message.write(b);
            return;
        }
        int n = random.nextInt(random.nextBoolean() ? 2001 : 140);
        int b = random.nextInt();
        int step = random.nextInt();
        DUE.is("updates in pieces", x.updates(n, b, step), true);
        message.writeBytes(Messages.run(n, b, step));
    }

    /** Nearly as many bytes as 512 calls can give. */
    private static void longest() {
        for (int kind : KINDS) {
            WideHash x = new WideHash();
            x.init();
            begin(x, kind, new int[4]);
            byte[] message = new byte[480 * 2000];
            for (int i = 0; i < 480; i++) {
                x.updates(2000, i, 77);
                System.arraycopy(Messages.run(2000, i, 77), 0, message, i * 2000, 2000);
            }
            DUE.is("length() of the longest", x.length(), message.length);
            x.close();
            DUE.same(kind + " bits, the longest", hex(words(x, kind)), hex(reference(kind, new int[4], message)));
        }
    }

    private static int[] bytewise(int kind, int[] key, byte[] message) {
        WideHash x = new WideHash();
        x.init();
        begin(x, kind, key);
        for (byte b : message) {
            x.update(b & 255);
        }
        x.close();
        return words(x, kind);
    }

    private static int[] runwise(int kind, int[] key, int n, int b, int step) {
        WideHash x = new WideHash();
        x.init();
        begin(x, kind, key);
        x.updates(n, b, step);
        x.close();
        return words(x, kind);
    }

    private static void begin(WideHash x, int kind, int[] key) {
        for (int i = 0; i < key.length; i++) {
            x.sipKey(i, key[i]);
        }
        DUE.is("beginning", kind == 64 ? x.beginSip() : x.beginSha(kind), true);
    }

    private static int[] words(WideHash x, int kind) {
        int[] words = new int[kind / 32];
        Arrays.setAll(words, x::word);
        return words;
    }

    private static int[] reference(int kind, int[] key, byte[] message) {
        return kind == 64 ? Reference.sip(key, message) : Reference.sha(kind, message);
    }

    private static String hex(int[] words) {
        StringBuilder text = new StringBuilder();
        for (int word : words) {
            text.append(String.format("%08x", word));
        }
        return text.toString();
    }
}
