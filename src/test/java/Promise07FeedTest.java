public final class Promise07FeedTest {
    private static final Checks CHECKS = new Checks();

    public static void main(String[] args) {
        BitRows x = new BitRows(0, 0);
        CHECKS.due("feed(0)", 1, x.feed(0));
        CHECKS.due("feed(255)", 2, x.feed(255));
        CHECKS.due("feed(0x81)", 3, x.feed(0x81));
        for (int b : new int[] {-1, 256, Integer.MIN_VALUE, Integer.MAX_VALUE}) {
            CHECKS.refused("feed(" + b + ")", IllegalArgumentException.class, x, () -> x.feed(b));
        }
        CHECKS.dueTold("fed", x, 0, 0, 3, 0, 0, 0);
        CHECKS.due("get(24)", 0x00ff81, x.get(24));
        limits();
        CHECKS.end();
    }

    private static void limits() {
        BitRows x = new BitRows(0, 0);
        Checks.fillTo(x, 2400);
        x.put(8, 77);
        CHECKS.due("pass(0, 300)", 300, x.pass(0, 300));
        CHECKS.due("pass(2, 299)", 299, x.pass(2, 299));
        CHECKS.due("the last feed", 600, x.feed(5));
        CHECKS.refused("feed when 600 came", UnsupportedOperationException.class, x, () -> x.feed(5));
        CHECKS.refused("feed(256) when 600 came", IllegalArgumentException.class, x, () -> x.feed(256));
        CHECKS.due("find at the end", BitRows.NONE, x.find(600));
        while (x.told(5) < 4800 - 32) {
            x.get(32);
        }
        CHECKS.due("the last bits", 77 << 8 | 5, x.get(32));
        CHECKS.due("behind the last bits", BitRows.NONE, x.get(1));
        CHECKS.refused("feed when all is read", UnsupportedOperationException.class, x, () -> x.feed(5));
    }
}
