public final class Promise10SkipTest {
    private static final Checks CHECKS = new Checks();

    public static void main(String[] args) {
        withoutStuffing();
        for (int order = 0; order < 2; order++) {
            byBytes(order);
            behindMarks(order);
        }
        byRuns();
        onesAreCountedAnew();
        bad();
        CHECKS.end();
    }

    private static void withoutStuffing() {
        for (int order = 0; order < 2; order++) {
            BitRows x = new BitRows(0, order);
            CHECKS.due("skip of nothing", 0, x.skip());
            Checks.feedAll(x, 255, 255, 7);
            CHECKS.due("skip at first", 0, x.skip());
            x.get(1);
            CHECKS.due("skip behind a bit", 7, x.skip());
            CHECKS.due("skip again", 0, x.skip());
            x.get(7);
            CHECKS.due("skip behind seven bits", 1, x.skip());
            CHECKS.dueTold("skipped", x, 0, 0, 3, 16, 0, 0);
            CHECKS.due("get(8)", 7, x.get(8));
            CHECKS.due("skip at the end", 0, x.skip());
        }
    }

    private static void byBytes(int order) {
        BitRows x = new BitRows(1, order);
        Checks.feedAll(x, 255, 127, 255, 0, 255, 1, 9);
        x.get(8);
        CHECKS.due("skip behind 255", 7, x.skip());
        CHECKS.dueTold("the stuffed bit is passed too", x, 0, 0, 7, 16, 1, 0);
        CHECKS.due("skip again", 0, x.skip());
        x.get(3);
        CHECKS.due("skip in 255", 12, x.skip());
        CHECKS.dueTold("over the byte behind 255", x, 0, 0, 7, 32, 2, 0);
        x.get(10);
        CHECKS.due("skip in the byte behind 255", 5, x.skip());
        CHECKS.dueTold("in the byte behind 255", x, 0, 0, 7, 48, 3, 0);
        x.get(2);
        CHECKS.due("skip in another byte", 6, x.skip());
        CHECKS.dueTold("in another byte", x, 0, 0, 7, 56, 3, 0);
    }

    private static void behindMarks(int order) {
        BitRows x = new BitRows(1, order);
        Checks.feedAll(x, 255, 255, 3, 255, 200);
        CHECKS.due("skip at a mark", 0, x.skip());
        x.take();
        CHECKS.due("skip behind a mark of 255", 0, x.skip());
        x.get(2);
        CHECKS.due("skip up to a mark", 6, x.skip());
        CHECKS.due("skip before a mark", 0, x.skip());
        CHECKS.dueTold("before a mark", x, 0, 0, 5, 24, 0, 0);
    }

    private static void byRuns() {
        BitRows x = new BitRows(2, 0);
        Checks.feedAll(x, 0x6c, 0x70);
        x.get(1);
        CHECKS.due("skip over two stuffed bits", 5, x.skip());
        CHECKS.dueTold("two stuffed bits", x, 0, 0, 2, 8, 2, 0);
        x.get(1);
        CHECKS.due("a stuffed bit 1 is not looked at", 6, x.skip());
        CHECKS.dueTold("not looked at", x, 0, 0, 2, 16, 3, 0);
        BitRows begun = new BitRows(2, 0);
        begun.feed(0x60);
        begun.get(2);
        CHECKS.due("a run that a field began", 5, begun.skip());
        CHECKS.due("its stuffed bit", 1, begun.told(6));
    }

    private static void onesAreCountedAnew() {
        BitRows x = new BitRows(2, 0);
        Checks.feedAll(x, 1, 0xa0);
        x.get(7);
        CHECKS.due("skip over the last bit", 1, x.skip());
        CHECKS.due("counted anew", 5, x.get(3));
        CHECKS.dueTold("counted anew", x, 0, 0, 2, 11, 0, 0);
        BitRows still = new BitRows(2, 0);
        Checks.feedAll(still, 1, 0x80);
        still.get(8);
        CHECKS.due("skip that does not go on", 0, still.skip());
        CHECKS.due("get(1)", 1, still.get(1));
        CHECKS.dueTold("counted on", still, 0, 0, 2, 10, 1, 0);
        BitRows full = new BitRows(2, 0);
        Checks.feedAll(full, 3, 0x80);
        full.get(6);
        CHECKS.due("skip over a run that ends the byte", 2, full.skip());
        CHECKS.due("nothing is stuffed behind it", 128, full.get(8));
        CHECKS.dueTold("nothing is stuffed behind it", full, 0, 0, 2, 16, 0, 0);
    }

    private static void bad() {
        BitRows x = new BitRows(2, 0);
        x.feed(0x70);
        x.get(1);
        x.get(2);
        CHECKS.due("skip if it is BAD", 0, x.skip());
        CHECKS.dueTold("skip if it is BAD", x, 0, 0, 1, 1, 0, 1);
    }
}
