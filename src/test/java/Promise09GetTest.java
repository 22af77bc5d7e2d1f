public final class Promise09GetTest {
    private static final Checks CHECKS = new Checks();

    public static void main(String[] args) {
        withoutStuffing();
        for (int order = 0; order < 2; order++) {
            byBytes(order);
            marks(order);
        }
        byRuns();
        stuffedBitsThatDidNotComeYet();
        badStuffedBits();
        whatIsMetFirst();
        refusals();
        CHECKS.end();
    }

    private static void withoutStuffing() {
        BitRows high = new BitRows(0, 0);
        CHECKS.due("get of nothing", BitRows.NONE, high.get(1));
        Checks.feedAll(high, 0xb3, 0xff, 0x80, 0x00, 0x01, 0xff);
        CHECKS.due("get(3)", 5, high.get(3));
        CHECKS.due("get(5)", 19, high.get(5));
        CHECKS.due("get(32)", 0xff800001L, high.get(32));
        CHECKS.due("get(9)", BitRows.NONE, high.get(9));
        CHECKS.due("get(8)", 255, high.get(8));
        CHECKS.dueTold("all is read", high, 0, 0, 6, 48, 0, 0);
        BitRows low = new BitRows(0, 1);
        Checks.feedAll(low, 157, 1, 0, 0x80, 0xff, 0x01);
        CHECKS.due("get(3)", 5, low.get(3));
        CHECKS.due("get(5)", 19, low.get(5));
        CHECKS.due("get(32)", 0xff800001L, low.get(32));
        CHECKS.due("get(1)", 1, low.get(1));
        CHECKS.due("get(8)", BitRows.NONE, low.get(8));
        CHECKS.dueTold("nothing is read then", low, 0, 0, 6, 41, 0, 0);
    }

    private static void byBytes(int order) {
        BitRows x = new BitRows(1, order);
        x.feed(255);
        CHECKS.due("255 alone", BitRows.NONE, x.get(1));
        x.feed(127);
        CHECKS.due("get(8)", 255, x.get(8));
        CHECKS.dueTold("255 is read", x, 0, 0, 2, 8, 0, 0);
        CHECKS.due("get(1) behind 255", 1, x.get(1));
        CHECKS.dueTold("a bit behind 255", x, 0, 0, 2, order == 0 ? 10 : 9, order == 0 ? 1 : 0, 0);
        CHECKS.due("get(7)", BitRows.NONE, x.get(7));
        CHECKS.due("get(6)", 63, x.get(6));
        CHECKS.dueTold("the byte behind 255", x, 0, 0, 2, 16, 1, 0);
        Checks.feedAll(x, 255, 0, 127, 255);
        CHECKS.due("get(23)", order == 0 ? 255 << 15 | 127L : 255L | 127L << 15, x.get(23));
        CHECKS.due("the last 255", BitRows.NONE, x.get(1));
        CHECKS.dueTold("behind 0 nothing is stuffed", x, 0, 0, 6, 40, 2, 0);
    }

    private static void marks(int order) {
        BitRows x = new BitRows(1, order);
        Checks.feedAll(x, 0xa5, 255);
        CHECKS.due("get(9) before 255", BitRows.NONE, x.get(9));
        x.feed(128);
        CHECKS.due("get(9) before a mark", BitRows.MARK, x.get(9));
        CHECKS.due("get(32) before a mark", BitRows.MARK, x.get(32));
        CHECKS.dueTold("nothing is read then", x, 0, 0, 3, 0, 0, 0);
        CHECKS.due("get(8)", 0xa5, x.get(8));
        CHECKS.due("get(1) at a mark", BitRows.MARK, x.get(1));
        CHECKS.dueTold("no mark is read", x, 0, 0, 3, 8, 0, 0);
        BitRows behind = new BitRows(1, order);
        Checks.feedAll(behind, 255, 255, 0x81, 255, 1, 255, 255, 255, 128);
        CHECKS.due("take", 255, behind.take());
        CHECKS.due("nothing is stuffed behind a mark of 255", 0x81, behind.get(8));
        CHECKS.due("get(15)", order == 0 ? 255 << 7 | 1 : 255 | 1 << 8, behind.get(15));
        CHECKS.due("take", 255, behind.take());
        CHECKS.due("a mark behind a mark", BitRows.MARK, behind.get(1));
        CHECKS.due("take", 128, behind.take());
        CHECKS.dueTold("all is read", behind, 0, 0, 9, 72, 1, 0);
    }

    private static void byRuns() {
        BitRows x = new BitRows(3, 0);
        Checks.feedAll(x, 0xee, 0xec);
        CHECKS.due("get(3)", 7, x.get(3));
        CHECKS.dueTold("a stuffed bit with it", x, 0, 0, 2, 4, 1, 0);
        CHECKS.due("get(8)", 255, x.get(8));
        CHECKS.dueTold("over bytes", x, 0, 0, 2, 14, 3, 0);
        CHECKS.due("get(2)", 0, x.get(2));
        BitRows low = new BitRows(2, 1);
        low.feed(0x36);
        CHECKS.due("low first", 0x1e, low.get(6));
        CHECKS.dueTold("low first", low, 0, 0, 1, 8, 2, 0);
        BitRows across = new BitRows(2, 0);
        Checks.feedAll(across, 0x01, 0x80);
        CHECKS.due("get(8)", 1, across.get(8));
        CHECKS.due("get(1)", 1, across.get(1));
        CHECKS.dueTold("a run over fields and bytes", across, 0, 0, 2, 10, 1, 0);
        BitRows longest = new BitRows(16, 0);
        Checks.feedAll(longest, 255, 255, 127, 255, 0x80);
        CHECKS.due("runs of 16", 0xffffffffL, longest.get(32));
        CHECKS.dueTold("runs of 16", longest, 0, 0, 5, 34, 2, 0);
        BitRows full = new BitRows(9, 0);
        Checks.feedAll(full, 255, 128);
        CHECKS.due("by runs no mark is found", 511, full.get(9));
    }

    private static void stuffedBitsThatDidNotComeYet() {
        BitRows x = new BitRows(2, 0);
        x.feed(3);
        CHECKS.due("get(8) without its stuffed bit", BitRows.NONE, x.get(8));
        CHECKS.dueTold("nothing is read", x, 0, 0, 1, 0, 0, 0);
        CHECKS.due("get(7)", 1, x.get(7));
        CHECKS.due("get(1) without its stuffed bit", BitRows.NONE, x.get(1));
        x.feed(0x40);
        CHECKS.due("get(1) with its stuffed bit", 1, x.get(1));
        CHECKS.dueTold("with its stuffed bit", x, 0, 0, 2, 9, 1, 0);
        CHECKS.due("get(7)", 64, x.get(7));
    }

    private static void badStuffedBits() {
        BitRows x = new BitRows(2, 0);
        x.feed(0xe0);
        CHECKS.due("get(1)", 1, x.get(1));
        CHECKS.due("get(1) with a stuffed bit 1", BitRows.BAD, x.get(1));
        CHECKS.dueTold("BAD", x, 0, 0, 1, 1, 0, 1);
        x.feed(0);
        CHECKS.due("BAD for good", BitRows.BAD, x.get(1));
        CHECKS.refused("get(0) if it is BAD", IllegalArgumentException.class, x, () -> x.get(0));
        x.put(3, 7);
        CHECKS.due("BAD for good", BitRows.BAD, x.get(1));
        CHECKS.dueTold("writing goes on", x, 4, 1, 2, 1, 0, 1);
        BitRows early = new BitRows(2, 0);
        early.feed(0x70);
        CHECKS.due("get(3) with a stuffed bit 1", BitRows.BAD, early.get(3));
        CHECKS.due("BAD for good, before that bit too", BitRows.BAD, early.get(1));
        CHECKS.dueTold("nothing is read", early, 0, 0, 1, 0, 0, 1);
        BitRows low = new BitRows(3, 1);
        low.feed(0x0f);
        CHECKS.due("get(2)", 3, low.get(2));
        CHECKS.due("low first", BitRows.BAD, low.get(5));
        CHECKS.dueTold("nothing is read", low, 0, 0, 1, 2, 0, 1);
    }

    private static void whatIsMetFirst() {
        BitRows bad = new BitRows(2, 0);
        bad.feed(7);
        CHECKS.due("BAD before NONE", BitRows.BAD, bad.get(20));
        BitRows none = new BitRows(2, 0);
        none.feed(3);
        CHECKS.due("NONE before BAD", BitRows.NONE, none.get(8));
        none.feed(0x80);
        CHECKS.due("not BAD yet", 0, none.told(7));
        CHECKS.due("then BAD", BitRows.BAD, none.get(8));
        BitRows mark = new BitRows(1, 0);
        Checks.feedAll(mark, 255, 200);
        CHECKS.due("MARK before NONE", BitRows.MARK, mark.get(32));
        BitRows afterNone = new BitRows(2, 0);
        Checks.feedAll(afterNone, 0xc3);
        CHECKS.due("a run begun by a get that reads nothing", BitRows.NONE, afterNone.get(8));
        CHECKS.due("is counted again", 0x18, afterNone.get(5));
    }

    private static void refusals() {
        for (int bits : new int[] {Integer.MIN_VALUE, -1, 0, 33, Integer.MAX_VALUE}) {
            BitRows x = new BitRows(0, 0);
            Checks.feedAll(x, 1, 2, 3, 4, 5);
            CHECKS.refused("get(" + bits + ")", IllegalArgumentException.class, x, () -> x.get(bits));
            BitRows mark = new BitRows(1, 0);
            Checks.feedAll(mark, 255, 128);
            CHECKS.refused("get(" + bits + ") at a mark", IllegalArgumentException.class, mark,
                    () -> mark.get(bits));
        }
    }
}
