public final class Promise04MarkTest {
    private static final Checks CHECKS = new Checks();

    public static void main(String[] args) {
        for (int order = 0; order < 2; order++) {
            places(order);
            nothingIsStuffedBehindMarks(order);
        }
        refusals();
        limits();
        CHECKS.end();
    }

    private static void places(int order) {
        BitRows x = new BitRows(1, order);
        CHECKS.due("mark(128) at first", 0, x.mark(128));
        CHECKS.due("mark(255)", 2, x.mark(255));
        x.put(3, 7);
        CHECKS.due("mark behind three bits", 5, x.mark(200));
        x.put(8, 255);
        CHECKS.due("mark behind 255", 9, x.mark(129));
        CHECKS.dueTold("marks", x, 88, 1);
        CHECKS.dueBytes("marks", x, 255, 128, 255, 255, order == 0 ? 0xe0 : 7, 255, 200, 255, 0, 255, 129);
        x.put(7, 1);
        x.put(8, 255);
        x.put(2, 3);
        CHECKS.dueTold("bits behind marks", x, order == 0 ? 106 : 105, order == 0 ? 2 : 1);
    }

    private static void nothingIsStuffedBehindMarks(int order) {
        BitRows x = new BitRows(1, order);
        x.mark(255);
        CHECKS.due("put(8, 255) behind a mark of 255", 16, x.put(8, 255));
        CHECKS.dueTold("behind a mark of 255", x, 24, 0);
        CHECKS.due("put(7, 127)", order == 0 ? 25 : 24, x.put(7, 127));
        CHECKS.dueTold("behind 255 of bits", x, 32, 1);
        CHECKS.dueBytes("behind a mark", x, 255, 255, 255, 127);
    }

    private static void refusals() {
        for (int stuffing : new int[] {0, 2, 16}) {
            BitRows x = new BitRows(stuffing, 0);
            x.put(3, 1);
            for (int code : new int[] {-1, 127, 128, 255, 256}) {
                CHECKS.refused("mark(" + code + ") not by bytes", IllegalStateException.class, x,
                        () -> x.mark(code));
            }
        }
        BitRows x = new BitRows(1, 0);
        x.put(3, 1);
        for (int code : new int[] {Integer.MIN_VALUE, -1, 0, 127, 256, Integer.MAX_VALUE}) {
            CHECKS.refused("mark(" + code + ")", IllegalArgumentException.class, x, () -> x.mark(code));
        }
    }

    private static void limits() {
        BitRows x = new BitRows(1, 0);
        Checks.fillTo(x, 4720);
        CHECKS.due("mark at 4720", 590, x.mark(128));
        CHECKS.refused("mark at 4736", UnsupportedOperationException.class, x, () -> x.mark(128));
        CHECKS.refused("mark(127) at 4736", IllegalArgumentException.class, x, () -> x.mark(127));
        BitRows over = new BitRows(1, 1);
        Checks.fillTo(over, 4721);
        CHECKS.refused("mark at 4721", UnsupportedOperationException.class, over, () -> over.mark(255));
        BitRows none = new BitRows(0, 1);
        Checks.fillTo(none, 4750);
        CHECKS.refused("mark not by bytes at 4750", IllegalStateException.class, none, () -> none.mark(255));
    }
}
