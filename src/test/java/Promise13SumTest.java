public final class Promise13SumTest {
    private static final Checks CHECKS = new Checks();

    public static void main(String[] args) {
        sums();
        partOfAByte();
        refusals();
        longRows();
        CHECKS.end();
    }

    private static void sums() {
        BitRows x = new BitRows(0, 1);
        for (int c = '1'; c <= '9'; c++) {
            x.put(8, c);
        }
        CHECKS.due("sum of 16 bits", 0x29b1, x.sum(false, 16, 0, 9));
        CHECKS.due("sum of 32 bits", 0xcbf43926, x.sum(false, 32, 0, 9));
        CHECKS.due("sum of 32 bits of 1", 0x83dcefb7, x.sum(false, 32, 0, 1));
        CHECKS.due("empty sum of 16 bits", 65535, x.sum(false, 16, 4, 4));
        CHECKS.due("empty sum of 32 bits", 0, x.sum(false, 32, 9, 9));
        x.pass(0, 9);
        x.feed(0);
        x.get(20);
        CHECKS.due("sum of what came", 0x29b1, x.sum(true, 16, 0, 9));
        CHECKS.due("sum of what came", 0xcbf43926, x.sum(true, 32, 0, 9));
        CHECKS.due("sum of a byte that came", 0xd202ef8d, x.sum(true, 32, 9, 10));
        CHECKS.due("sum of a byte that came", 0xe1f0, x.sum(true, 16, 9, 10));
        CHECKS.due("nothing is read by sums", 20, x.told(5));
        BitRows none = new BitRows(2, 0);
        CHECKS.due("sum of no bytes", 65535, none.sum(true, 16, 0, 0));
        CHECKS.due("sum of no bytes", 0, none.sum(false, 32, 0, 0));
    }

    private static void partOfAByte() {
        BitRows x = new BitRows(0, 0);
        x.put(3, 5);
        BitRows y = new BitRows(0, 0);
        y.feed(0xa0);
        CHECKS.due("sum of a part of a byte", y.sum(true, 16, 0, 1), x.sum(false, 16, 0, 1));
        CHECKS.due("sum of a part of a byte", y.sum(true, 32, 0, 1), x.sum(false, 32, 0, 1));
        CHECKS.due("the sum of 0xa0", 0x541a, y.sum(true, 16, 0, 1));
    }

    /** Three bytes that were written, the last one in part, and one that came. */
    private static BitRows threeAndOne() {
        BitRows x = new BitRows(0, 0);
        x.put(20, 3);
        x.feed(1);
        return x;
    }

    private static void refusals() {
        for (int width : new int[] {0, 8, 15, 17, 31, 33, 64, -16, Integer.MIN_VALUE}) {
            BitRows x = threeAndOne();
            CHECKS.refused("sum of " + width + " bits", IllegalArgumentException.class, x,
                    () -> x.sum(false, width, 0, 1));
            CHECKS.refused("sum of " + width + " bits of none", IllegalArgumentException.class, x,
                    () -> x.sum(true, width, 5, -3));
        }
        int[][] ranges = {{-1, 1}, {0, 4}, {4, 4}, {2, 1}, {3, 2}, {-1, -1}, {0, -1}, {1, 0},
            {Integer.MIN_VALUE, 2}, {0, Integer.MAX_VALUE}, {Integer.MAX_VALUE, Integer.MIN_VALUE}};
        for (int[] r : ranges) {
            BitRows x = threeAndOne();
            for (int width = 16; width <= 32; width += 16) {
                int w = width;
                CHECKS.refused("sum of written ones from " + r[0] + " to " + r[1],
                        IndexOutOfBoundsException.class, x, () -> x.sum(false, w, r[0], r[1]));
                CHECKS.refused("sum of those that came from " + r[0] + " to " + r[1],
                        IndexOutOfBoundsException.class, x, () -> x.sum(true, w, r[0], r[1]));
            }
        }
        BitRows x = threeAndOne();
        CHECKS.refused("sum of two when one came", IndexOutOfBoundsException.class, x,
                () -> x.sum(true, 16, 0, 2));
        CHECKS.due("sum at the end of what was written", 65535, x.sum(false, 16, 3, 3));
    }

    private static void longRows() {
        BitRows x = new BitRows(0, 0);
        java.util.zip.CRC32 crc = new java.util.zip.CRC32();
        for (int i = 0; i < 148; i++) {
            int v = i * 0x9e3779b9;
            x.put(32, v);
            for (int shift = 24; shift >= 0; shift -= 8) {
                crc.update(v >>> shift & 255);
            }
        }
        x.pass(0, 592);
        CHECKS.due("sum of a long row", (int) crc.getValue(), x.sum(false, 32, 0, 592));
        CHECKS.due("sum of a long row that came", (int) crc.getValue(), x.sum(true, 32, 0, 592));
    }
}
