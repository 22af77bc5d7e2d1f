public final class Promise03AlignTest {
    private static final Checks CHECKS = new Checks();

    public static void main(String[] args) {
        withoutStuffing();
        byBytes();
        behindMarks();
        byRuns();
        limits();
        CHECKS.end();
    }

    private static void withoutStuffing() {
        for (int order = 0; order < 2; order++) {
            BitRows x = new BitRows(0, order);
            CHECKS.due("align an empty row", 0, x.align());
            for (int bits = 1; bits <= 8; bits++) {
                x.put(bits, -1);
                CHECKS.due("align behind " + bits, 8 - bits, x.align());
                CHECKS.due("align again", 0, x.align());
                CHECKS.dueTold("align", x, 8 * bits, 0);
            }
            CHECKS.due("the last byte is 255", 255, x.byteAt(7));
            CHECKS.due("zeros fill up", order == 0 ? 0xe0 : 7, x.byteAt(2));
        }
    }

    private static void byBytes() {
        for (int order = 0; order < 2; order++) {
            BitRows x = new BitRows(1, order);
            CHECKS.due("align an empty row", 0, x.align());
            x.put(8, 255);
            CHECKS.due("align behind 255", 7, x.align());
            CHECKS.dueTold("align behind 255", x, 16, 1);
            CHECKS.due("align again", 0, x.align());
            x.put(11, -1);
            CHECKS.due("align three bits behind 255", 4, x.align());
            CHECKS.dueTold("align three bits behind 255", x, 32, 2);
            x.put(15, -1);
            CHECKS.due("align at 127", 0, x.align());
            CHECKS.dueBytes("align", x, 255, 0, 255, order == 0 ? 0x70 : 7, 255, 127);
            x.put(7, -1);
            CHECKS.due("align seven bits", 1, x.align());
            CHECKS.dueTold("align seven bits", x, 56, 3);
        }
    }

    private static void behindMarks() {
        for (int order = 0; order < 2; order++) {
            BitRows x = new BitRows(1, order);
            x.mark(255);
            CHECKS.due("align behind a mark of 255", 0, x.align());
            x.put(8, 255);
            CHECKS.due("align behind 255 behind a mark", 7, x.align());
            CHECKS.dueBytes("behind a mark", x, 255, 255, 255, 0);
        }
    }

    private static void byRuns() {
        BitRows x = new BitRows(2, 0);
        x.put(8, 1);
        CHECKS.due("align at a whole byte", 0, x.align());
        x.put(1, 1);
        CHECKS.dueTold("no bit came, so the run goes on", x, 10, 1);
        x.put(1, 1);
        CHECKS.due("align by runs", 5, x.align());
        x.put(1, 1);
        CHECKS.dueTold("zeros ended the run", x, 17, 1);
        BitRows full = new BitRows(16, 0);
        full.put(8, 255);
        CHECKS.due("255 by runs is aligned", 0, full.align());
    }

    private static void limits() {
        BitRows x = new BitRows(0, 0);
        Checks.fillTo(x, 4752);
        CHECKS.due("align at 4752", 0, x.align());
        x.put(1, 1);
        CHECKS.refused("align at 4753", UnsupportedOperationException.class, x, () -> x.align());
        Checks.fillTo(x, 4760);
        CHECKS.refused("align a whole byte at 4760", UnsupportedOperationException.class, x, () -> x.align());
        BitRows near = new BitRows(0, 1);
        Checks.fillTo(near, 4751);
        CHECKS.due("align at 4751", 1, near.align());
    }
}
