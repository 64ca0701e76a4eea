import java.io.ByteArrayOutputStream;
import java.util.Random;

/** Promises 3 to 9 with many messages: every length about some blocks, messages in pieces, long ones. */
public final class DigestsTest {
    private static final Due DUE = new Due("DigestsTest");
    private static final int[] KEY = {1, -2, 0x7fffffff, 0x80000000};

    public static void main(String[] args) {
        for (Kind kind : Kind.values()) {
            DUE.test("every length of " + kind, () -> everyLength(kind));
            DUE.test("long runs of " + kind, () -> longRuns(kind));
            DUE.test("the longest message of " + kind, () -> longest(kind));
        }
        DUE.test("messages in pieces", DigestsTest::inPieces);
        DUE.end();
    }

    private static void everyLength(Kind kind) {
        for (int n = 0; n <= 530; n++) {
            WideHash x = begun(kind, KEY);
            x.updates(n, 250, 7);
            DUE.ends(kind + " of a run of " + n, x, kind, KEY, Messages.run(n, 250, 7));
        }
        for (int n = 0; n <= 270; n++) {
            WideHash x = begun(kind, KEY);
            for (byte b : Messages.run(n, 3, 91)) {
                x.update(b & 255);
            }
            DUE.ends(kind + " of " + n + " bytes", x, kind, KEY, Messages.run(n, 3, 91));
        }
    }

    private static void longRuns(Kind kind) {
        for (int b : Due.FAR) {
            for (int step : Due.FAR) {
                WideHash x = begun(kind, KEY);
                x.updates(2000, b + 1, step + 1);
                String what = kind + ", updates(2000, " + (b + 1) + ", " + (step + 1) + ")";
                DUE.ends(what, x, kind, KEY, Messages.run(2000, b + 1, step + 1));
            }
        }
    }

    /** Nearly as many bytes as 512 calls can give. */
    private static void longest(Kind kind) {
        WideHash x = begun(kind, KEY);
        byte[] message = new byte[470 * 2000];
        for (int i = 0; i < 470; i++) {
            x.updates(2000, i, 77);
            System.arraycopy(Messages.run(2000, i, 77), 0, message, i * 2000, 2000);
        }
        DUE.ends(kind + ", the longest", x, kind, KEY, message);
    }

    /** Many messages on each object, the seed being fixed so that each run is the same. */
    private static void inPieces() {
        Random random = new Random(20261115);
        WideHash x = Kind.ready();
        for (int turn = 0; turn < 600; turn++) {
            // An object is promised 512 calls: a new one comes long before.
            if (turn % 5 == 0) {
                x = Kind.ready();
            }
            Kind kind = Kind.values()[random.nextInt(3)];
            int[] key = random.ints(4).toArray();
            begin(x, kind, key);
            ByteArrayOutputStream message = new ByteArrayOutputStream();
            int pieces = random.nextInt(12);
            for (int i = 0; i < pieces; i++) {
                piece(x, random, message);
            }
            DUE.ends(kind + ", pieces of turn " + turn, x, kind, key, message.toByteArray());
        }
    }

    private static void piece(WideHash x, Random random, ByteArrayOutputStream message) {
        if (random.nextBoolean()) {
            int b = random.nextInt(256);
            DUE.is("update in pieces", x.update(b), true);
            message.write(b);
            return;
        }
        int n = random.nextInt(random.nextBoolean() ? 2001 : 140);
        int b = random.nextInt();
        int step = random.nextInt();
        DUE.is("updates in pieces", x.updates(n, b, step), true);
        message.writeBytes(Messages.run(n, b, step));
    }

    private static WideHash begun(Kind kind, int[] key) {
        WideHash x = Kind.ready();
        begin(x, kind, key);
        return x;
    }

    private static void begin(WideHash x, Kind kind, int[] key) {
        for (int i = 0; i < key.length; i++) {
            x.sipKey(i, key[i]);
        }
        DUE.is("beginning of " + kind, kind.begin(x), true);
    }
}
