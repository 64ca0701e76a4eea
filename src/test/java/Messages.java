/** Messages for the tests. */
final class Messages {
    private Messages() {
    }

    /** The bytes of updates(n, b, step), reckoned with longs so that nothing wraps. */
    static byte[] run(int n, int b, int step) {
        byte[] bytes = new byte[n];
        for (int i = 0; i < n; i++) {
            bytes[i] = (byte) Math.floorMod(b + (long) i * step, 256L);
        }
        return bytes;
    }
}
