public final class Promise05PatchTest {
    private static final Checks CHECKS = new Checks();

    public static void main(String[] args) {
        fields();
        refusals();
        CHECKS.end();
    }

    private static void fields() {
        BitRows high = new BitRows(0, 0);
        high.put(32, 0x12345678);
        high.put(4, 9);
        CHECKS.due("patch(4, 8, 0xfab)", 0x23, high.patch(4, 8, 0xfab));
        CHECKS.dueBytes("patch", high, 0x1a, 0xb4, 0x56, 0x78, 0x90);
        CHECKS.due("patch(35, 1, 0)", 1, high.patch(35, 1, 0));
        CHECKS.due("patch(4, 32, -1)", 0xab456788, high.patch(4, 32, -1));
        CHECKS.dueBytes("patch of 32 bits", high, 0x1f, 255, 255, 255, 0xf0);
        CHECKS.due("patch(0, 32, 0)", 0x1fffffff, high.patch(0, 32, 0));
        CHECKS.dueTold("patch adds no bits", high, 36, 0);
        CHECKS.due("put behind patches", 36, high.put(4, 5));
        BitRows low = new BitRows(0, 1);
        low.put(32, 0x12345678);
        low.put(4, 9);
        CHECKS.due("patch(4, 8, 0xfab)", 0x67, low.patch(4, 8, 0xfab));
        CHECKS.dueBytes("patch", low, 0xb8, 0x5a, 0x34, 0x12, 0x09);
        CHECKS.due("patch(4, 32, 0)", 0x912345ab, low.patch(4, 32, 0));
        CHECKS.dueBytes("patch of 32 bits", low, 8, 0, 0, 0, 0);
    }

    private static void refusals() {
        for (int stuffing : new int[] {1, 2, 16}) {
            BitRows stuffed = new BitRows(stuffing, 0);
            stuffed.put(16, 5);
            CHECKS.refused("patch with stuffing", IllegalStateException.class, stuffed,
                    () -> stuffed.patch(0, 4, 1));
            CHECKS.refused("patch(-1, 0, 1) with stuffing", IllegalStateException.class, stuffed,
                    () -> stuffed.patch(-1, 0, 1));
        }
        BitRows x = new BitRows(0, 0);
        x.put(20, 0x54321);
        for (int bits : new int[] {Integer.MIN_VALUE, -1, 0, 33, Integer.MAX_VALUE}) {
            CHECKS.refused("patch(0, " + bits + ", 1)", IllegalArgumentException.class, x,
                    () -> x.patch(0, bits, 1));
            CHECKS.refused("patch(-1, " + bits + ", 1)", IllegalArgumentException.class, x,
                    () -> x.patch(-1, bits, 1));
        }
        int[][] places = {{-1, 1}, {-1, 32}, {20, 1}, {19, 2}, {0, 21}, {Integer.MIN_VALUE, 32},
            {Integer.MAX_VALUE, 1}, {Integer.MAX_VALUE, 32}};
        for (int[] p : places) {
            CHECKS.refused("patch(" + p[0] + ", " + p[1] + ", -1)", IndexOutOfBoundsException.class, x,
                    () -> x.patch(p[0], p[1], -1));
        }
        CHECKS.due("patch(0, 20, 0)", 0x54321, x.patch(0, 20, 0));
        BitRows empty = new BitRows(0, 0);
        CHECKS.refused("patch an empty row", IndexOutOfBoundsException.class, empty,
                () -> empty.patch(0, 1, 1));
    }
}
