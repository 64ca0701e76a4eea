import java.security.MessageDigest;
import java.security.NoSuchAlgorithmException;

/** The digests by other means: Java's own SHA, and a SipHash-2-4 over longs. */
final class Reference {
    private Reference() {
    }

    /** The words of SHA-512 (bits 512) or SHA-384 (bits 384). */
    static int[] sha(int bits, byte[] message) {
        try {
            byte[] digest = MessageDigest.getInstance("SHA-" + bits).digest(message);
            int[] words = new int[digest.length / 4];
            for (int i = 0; i < digest.length; i++) {
                words[i / 4] = words[i / 4] << 8 | digest[i] & 255;
            }
            return words;
        } catch (NoSuchAlgorithmException e) {
            throw new IllegalStateException(e);
        }
    }

    /** The two words of SipHash-2-4, the high one first. The key is as sipKey() numbers it. */
    static int[] sip(int[] key, byte[] message) {
        long p = (long) key[1] << 32 | key[0] & 0xffffffffL;
        long q = (long) key[3] << 32 | key[2] & 0xffffffffL;
        long[] v = {p ^ 0x736F6D6570736575L, q ^ 0x646F72616E646F6DL,
            p ^ 0x6C7967656E657261L, q ^ 0x7465646279746573L};
        int n = message.length;
        byte[] padded = java.util.Arrays.copyOf(message, n / 8 * 8 + 8);
        padded[padded.length - 1] = (byte) n;
        for (int i = 0; i < padded.length; i += 8) {
            long m = 0;
            for (int j = 7; j >= 0; j--) {
                m = m << 8 | padded[i + j] & 255;
            }
            v[3] ^= m;
            sipRounds(v, 2);
            v[0] ^= m;
        }
        v[2] ^= 255;
        sipRounds(v, 4);
        long digest = v[0] ^ v[1] ^ v[2] ^ v[3];
        return new int[] {(int) (digest >>> 32), (int) digest};
    }

    private static void sipRounds(long[] v, int rounds) {
        for (int i = 0; i < rounds; i++) {
            v[0] += v[1];
            v[2] += v[3];
            v[1] = Long.rotateLeft(v[1], 13) ^ v[0];
            v[3] = Long.rotateLeft(v[3], 16) ^ v[2];
            v[0] = Long.rotateLeft(v[0], 32);
            v[2] += v[1];
            v[0] += v[3];
            v[1] = Long.rotateLeft(v[1], 17) ^ v[2];
            v[3] = Long.rotateLeft(v[3], 21) ^ v[0];
            v[2] = Long.rotateLeft(v[2], 32);
        }
    }
}
