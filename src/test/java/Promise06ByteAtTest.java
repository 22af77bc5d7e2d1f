public final class Promise06ByteAtTest {
    private static final Checks CHECKS = new Checks();

    public static void main(String[] args) {
        BitRows high = new BitRows(0, 0);
        high.put(8, 0xc5);
        CHECKS.dueBytes("one byte", high, 0xc5);
        high.put(1, 1);
        CHECKS.dueBytes("one bit more", high, 0xc5, 0x80);
        BitRows low = new BitRows(0, 5);
        low.put(9, 0x1c5);
        CHECKS.dueBytes("low first", low, 0xc5, 1);
        BitRows waiting = new BitRows(1, 0);
        waiting.put(8, 255);
        CHECKS.dueBytes("a stuffed bit that waits makes no byte", waiting, 255);
        BitRows run = new BitRows(8, 0);
        run.put(8, 255);
        CHECKS.dueBytes("a stuffed bit makes a byte", run, 255, 0);
        for (int i : new int[] {-1, 2, 599, 600, Integer.MIN_VALUE, Integer.MAX_VALUE}) {
            CHECKS.refused("byteAt(" + i + ")", IndexOutOfBoundsException.class, high, () -> high.byteAt(i));
        }
        BitRows x = new BitRows(0, 0);
        x.feed(9);
        CHECKS.refused("byteAt of a byte that came", IndexOutOfBoundsException.class, x, () -> x.byteAt(0));
        Checks.fillTo(x, 4782);
        x.put(1, 1);
        CHECKS.due("the last byte there may be", 2, x.byteAt(597));
        CHECKS.refused("byteAt(598)", IndexOutOfBoundsException.class, x, () -> x.byteAt(598));
        CHECKS.end();
    }
}
