public final class Promise01NewTest {
    private static final Checks CHECKS = new Checks();

    public static void main(String[] args) {
        int[][] stuffings = {{Integer.MIN_VALUE, 0}, {-1, 0}, {0, 0}, {1, 1}, {2, 2}, {9, 9}, {15, 15},
            {16, 16}, {17, 16}, {Integer.MAX_VALUE, 16}};
        int[][] orders = {{0, 0}, {1, 1}, {-1, 1}, {2, 1}, {256, 1}, {Integer.MIN_VALUE, 1}};
        for (int[] stuffing : stuffings) {
            for (int[] order : orders) {
                BitRows x = new BitRows(stuffing[0], order[0]);
                String what = "new BitRows(" + stuffing[0] + ", " + order[0] + ")";
                CHECKS.due(what + ": told(0)", stuffing[1], x.told(0));
                CHECKS.due(what + ": told(1)", order[1], x.told(1));
                CHECKS.dueTold(what, x, 0, 0, 0, 0, 0, 0);
                CHECKS.dueBytes(what, x);
                CHECKS.due(what + ": get(1)", BitRows.NONE, x.get(1));
            }
        }
        theNearestStuffingIsUsed();
        objectsShareNothing();
        CHECKS.end();
    }

    private static void theNearestStuffingIsUsed() {
        BitRows low = new BitRows(-7, 0);
        low.put(32, -1);
        CHECKS.due("stuffing -7 stuffs nothing", 32, low.told(2));
        BitRows high = new BitRows(99, 0);
        high.put(15, -1);
        CHECKS.due("stuffing 99, 15 bits 1", 15, high.told(2));
        high.put(1, 1);
        CHECKS.due("stuffing 99, 16 bits 1", 17, high.told(2));
    }

    private static void objectsShareNothing() {
        BitRows one = new BitRows(0, 0);
        BitRows other = new BitRows(0, 0);
        one.put(8, 77);
        one.feed(3);
        CHECKS.dueTold("another object", other, 0, 0, 0, 0, 0, 0);
    }
}
