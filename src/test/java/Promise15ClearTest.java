public final class Promise15ClearTest {
    private static final Checks CHECKS = new Checks();

    public static void main(String[] args) {
        for (int stuffing = 0; stuffing <= 16; stuffing++) {
            for (int order = 0; order < 2; order++) {
                cleared(stuffing, order);
            }
        }
        bytesAreForgotten();
        runsAreForgotten();
        fullBytesAndMarksAreForgotten();
        badIsForgotten();
        CHECKS.end();
    }

    private static void cleared(int stuffing, int order) {
        BitRows x = new BitRows(stuffing, order);
        x.clear();
        x.put(32, -1);
        x.put(13, 0x1a5a);
        x.pass(0, 5);
        x.get(11);
        x.clear();
        String what = "clear with stuffing " + stuffing + ", order " + order;
        CHECKS.due(what + ": told(0)", stuffing, x.told(0));
        CHECKS.due(what + ": told(1)", order, x.told(1));
        CHECKS.dueTold(what, x, 0, 0, 0, 0, 0, 0);
        CHECKS.dueBytes(what, x);
        CHECKS.due(what + ": get(1)", BitRows.NONE, x.get(1));
        CHECKS.due(what + ": put(1, 0)", 0, x.put(1, 0));
        CHECKS.due(what + ": put(7, 0)", 1, x.put(7, 0));
        CHECKS.dueBytes(what, x, 0);
        CHECKS.due(what + ": feed(77)", 1, x.feed(77));
        CHECKS.due(what + ": get(8)", 77, stuffing == 2 ? 77 : x.get(8));
    }

    private static void bytesAreForgotten() {
        for (int order = 0; order < 2; order++) {
            BitRows x = new BitRows(0, order);
            x.put(16, -1);
            x.feed(255);
            x.feed(200);
            x.clear();
            x.put(1, 0);
            CHECKS.dueBytes("bits that a byte has not yet", x, 0);
            CHECKS.due("their sum", 0xe1f0, x.sum(false, 16, 0, 1));
            x.feed(255);
            CHECKS.due("a code that came before clear", BitRows.NONE, x.find(0));
        }
    }

    private static void runsAreForgotten() {
        BitRows x = new BitRows(2, 0);
        x.put(1, 1);
        x.feed(1);
        x.get(8);
        x.clear();
        x.put(1, 1);
        CHECKS.due("a run before clear", 1, x.told(2));
        x.feed(0xa0);
        CHECKS.due("a run read before clear", 5, x.get(3));
    }

    private static void fullBytesAndMarksAreForgotten() {
        for (int order = 0; order < 2; order++) {
            BitRows x = new BitRows(1, order);
            x.mark(255);
            x.pass(0, 2);
            x.take();
            x.clear();
            x.put(16, order == 0 ? 0x00ff : 0xff00);
            x.put(7, 127);
            CHECKS.dueBytes("a mark before clear", x, 0, 255, 127);
            x.pass(0, 3);
            CHECKS.due("get(16)", order == 0 ? 0x00ff : 0xff00, x.get(16));
            CHECKS.due("a mark read before clear", 127, x.get(7));
        }
    }

    private static void badIsForgotten() {
        BitRows x = new BitRows(2, 0);
        x.feed(0xe0);
        x.get(2);
        x.clear();
        x.feed(0xc0);
        CHECKS.due("BAD before clear", 3, x.get(2));
        CHECKS.due("told(7)", 0, x.told(7));
    }
}
