public final class Promise11TakeTest {
    private static final Checks CHECKS = new Checks();

    public static void main(String[] args) {
        for (int order = 0; order < 2; order++) {
            taking(order);
            notAtAWholeByte(order);
        }
        notByBytes();
        CHECKS.end();
    }

    private static void taking(int order) {
        BitRows x = new BitRows(1, order);
        CHECKS.due("take of nothing", BitRows.NONE, x.take());
        x.feed(255);
        CHECKS.due("not yet", BitRows.NONE, x.take());
        x.feed(128);
        CHECKS.due("take", 128, x.take());
        CHECKS.dueTold("a mark is read", x, 0, 0, 2, 16, 0, 0);
        CHECKS.due("take again", BitRows.NONE, x.take());
        Checks.feedAll(x, 255, 255, 255, 127, 255, 200);
        CHECKS.due("take", 255, x.take());
        CHECKS.due("255 and 127 are no mark", BitRows.NONE, x.take());
        CHECKS.due("get(8)", 255, x.get(8));
        CHECKS.due("behind 255 there is no mark", BitRows.NONE, x.take());
        CHECKS.due("get(7)", 127, x.get(7));
        CHECKS.due("take", 200, x.take());
        CHECKS.dueTold("all is read", x, 0, 0, 8, 64, 1, 0);
    }

    private static void notAtAWholeByte(int order) {
        BitRows x = new BitRows(1, order);
        Checks.feedAll(x, 5, 255, 129);
        CHECKS.due("take before bits", BitRows.NONE, x.take());
        x.get(7);
        CHECKS.due("take before a bit", BitRows.NONE, x.take());
        CHECKS.dueTold("nothing is read", x, 0, 0, 3, 7, 0, 0);
        x.get(1);
        CHECKS.due("take behind it", 129, x.take());
    }

    private static void notByBytes() {
        for (int stuffing : new int[] {0, 2, 9, 16}) {
            BitRows x = new BitRows(stuffing, 0);
            Checks.feedAll(x, 255, 200);
            CHECKS.due("take not by bytes", BitRows.NONE, x.take());
            CHECKS.due("nothing is read", 0, x.told(5));
        }
        BitRows bad = new BitRows(2, 0);
        bad.feed(255);
        bad.get(2);
        CHECKS.due("it is BAD", 1, bad.told(7));
        CHECKS.due("take if it is BAD", BitRows.NONE, bad.take());
    }
}
