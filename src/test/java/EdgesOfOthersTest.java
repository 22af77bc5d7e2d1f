/** The boundary cases of promises 13 to 15: each sentence that names one has a test that quotes it. */
public final class EdgesOfOthersTest {
    private static final Checks CHECKS = new Checks();
    private static final Class<IndexOutOfBoundsException> INDEX = IndexOutOfBoundsException.class;
    private static final Class<IllegalArgumentException> ARGUMENT = IllegalArgumentException.class;
    private static final int MIN = Integer.MIN_VALUE;
    private static final int MAX = Integer.MAX_VALUE;

    public static void main(String[] args) {
        anotherWidth();
        for (int width = 16; width <= 32; width += 16) {
            sumsOfNoBytes(width);
            notAllThere(width);
            endBeforeTheyBegin(width);
            withoutTheLastOne(width);
            partOfAByte(width);
            sumsOfFullRows(width);
        }
        writtenOrCame();
        noneForAnotherWhat();
        toldOfFullRows();
        for (int order = 0; order < 2; order++) {
            clearOfEmptyRows(order);
            clearOfFullRows(order);
            clearOfWhatWaits(order);
        }
        CHECKS.end();
    }

    /** Three bytes that were written, the last one in part, and two that came. */
    private static BitRows threeAndTwo() {
        BitRows x = new BitRows(0, 0);
        x.put(17, 0x12345);
        Checks.feedAll(x, 1, 2);
        return x;
    }

    /** Promise 13: "IllegalArgument: another width", before bytes that are not there. */
    private static void anotherWidth() {
        for (int width : new int[] {MIN, MIN + 16, -32, -16, -1, 0, 1, 8, 15, 17, 24, 31, 33, 48, 64,
            0x10000 + 16, 0x20000000 + 32, MAX}) {
            BitRows x = threeAndTwo();
            int[][] ranges = {{0, 1}, {0, 0}, {0, 4}, {-1, 1}, {2, 1}, {MIN, MAX}};
            for (int[] r : ranges) {
                CHECKS.refused("sum of " + width + " bits written", ARGUMENT, x,
                        () -> x.sum(false, width, r[0], r[1]));
                CHECKS.refused("sum of " + width + " bits that came", ARGUMENT, x,
                        () -> x.sum(true, width, r[0], r[1]));
            }
        }
    }

    /** Promise 13: "from one up to another one, without that": none, if they are the same. */
    private static void sumsOfNoBytes(int width) {
        int none = width == 16 ? 65535 : 0;
        BitRows empty = new BitRows(1, 1);
        CHECKS.due("none of none written", none, empty.sum(false, width, 0, 0));
        CHECKS.due("none of none that came", none, empty.sum(true, width, 0, 0));
        BitRows x = threeAndTwo();
        for (int i = 0; i <= 3; i++) {
            CHECKS.due("none at " + i + " written", none, x.sum(false, width, i, i));
        }
        for (int i = 0; i <= 2; i++) {
            CHECKS.due("none at " + i + " that came", none, x.sum(true, width, i, i));
        }
    }

    /** Promise 13: "IndexOutOfBounds: they are not all there". */
    private static void notAllThere(int width) {
        BitRows empty = new BitRows(0, 0);
        BitRows x = threeAndTwo();
        for (int[] r : new int[][] {{0, 1}, {-1, 0}, {-1, -1}, {1, 1}}) {
            CHECKS.refused("of none written", INDEX, empty, () -> empty.sum(false, width, r[0], r[1]));
            CHECKS.refused("of none that came", INDEX, empty, () -> empty.sum(true, width, r[0], r[1]));
        }
        for (int[] r : new int[][] {{-1, 2}, {0, 4}, {3, 4}, {4, 4}, {MIN, 1}, {MIN, MIN}, {0, MAX}}) {
            CHECKS.refused("of three written", INDEX, x, () -> x.sum(false, width, r[0], r[1]));
        }
        BitRows y = threeAndTwo();
        for (int[] r : new int[][] {{-1, 2}, {0, 3}, {2, 3}, {3, 3}, {MAX, MAX}, {MIN, MAX},
            {0, 0x20000000}, {0x20000000, 0x20000001}}) {
            CHECKS.refused("of two that came", INDEX, y, () -> y.sum(true, width, r[0], r[1]));
        }
    }

    /** Promise 13: "or end before they begin". */
    private static void endBeforeTheyBegin(int width) {
        BitRows x = threeAndTwo();
        for (int[] r : new int[][] {{1, 0}, {2, 1}, {2, 0}, {0, -1}, {0, MIN}, {2, MIN}, {MAX, MIN}, {MAX, 2}}) {
            CHECKS.refused("from " + r[0] + " to " + r[1], INDEX, x, () -> x.sum(false, width, r[0], r[1]));
            CHECKS.refused("from " + r[0] + " to " + r[1], INDEX, x, () -> x.sum(true, width, r[0], r[1]));
        }
    }

    /** Promise 13: "from one up to another one, without that". */
    private static void withoutTheLastOne(int width) {
        BitRows x = new BitRows(0, 0);
        Checks.feedAll(x, 0x31, 0x32, 0x33, 0x34);
        for (int from = 0; from <= 4; from++) {
            for (int to = from; to <= 4; to++) {
                BitRows part = new BitRows(0, 0);
                for (int i = from; i < to; i++) {
                    part.feed(0x31 + i);
                }
                CHECKS.due("sum from " + from + " to " + to, part.sum(true, width, 0, to - from),
                        x.sum(true, width, from, to));
            }
        }
        BitRows known = new BitRows(0, 0);
        Checks.feedAll(known, 0, 0x31, 0x32, 0x33, 0x34, 0x35, 0x36, 0x37, 0x38, 0x39, 0);
        CHECKS.due("a known sum", width == 16 ? 0x29b1 : 0xcbf43926, known.sum(true, width, 1, 10));
    }

    /** Promise 13: "a byte of which some bits were written counts, its other bits 0". */
    private static void partOfAByte(int width) {
        for (int order = 0; order < 2; order++) {
            for (int bits = 1; bits <= 8; bits++) {
                BitRows x = new BitRows(0, order);
                x.put(bits, -1);
                x.feed(order == 0 ? 0xff00 >> bits & 255 : (1 << bits) - 1);
                CHECKS.due(bits + " bits", x.sum(true, width, 0, 1), x.sum(false, width, 0, 1));
                CHECKS.refused(bits + " bits are one byte", INDEX, x, () -> x.sum(false, width, 0, 2));
            }
        }
    }

    /** Promise 13 of all bytes that may be there. */
    private static void sumsOfFullRows(int width) {
        BitRows x = Checks.filled(0, 0, 4783);
        CHECKS.due("597 bytes that come", 597, x.pass(0, 600));
        Checks.feedAll(x, 0, 0, 0);
        CHECKS.due("598 of 600", x.sum(false, width, 0, 598), x.sum(true, width, 0, 598));
        CHECKS.due("the last one", x.sum(false, width, 597, 598), x.sum(true, width, 599, 600));
        CHECKS.refused("599 written", INDEX, x, () -> x.sum(false, width, 0, 599));
        CHECKS.refused("601 that came", INDEX, x, () -> x.sum(true, width, 0, 601));
        java.util.zip.CRC32 crc = new java.util.zip.CRC32();
        crc.update(new byte[600]);
        if (width == 32) {
            CHECKS.due("600 bytes", (int) crc.getValue(), x.sum(true, 32, 0, 600));
        }
    }

    /** Promise 13: "of bytes that were written (or that came ...)". */
    private static void writtenOrCame() {
        BitRows x = new BitRows(0, 0);
        x.put(8, 0);
        x.feed(255);
        CHECKS.due("written", 0xe1f0, x.sum(false, 16, 0, 1));
        CHECKS.due("came", 0xff00, x.sum(true, 16, 0, 1));
        CHECKS.due("written", 0xd202ef8d, x.sum(false, 32, 0, 1));
        CHECKS.due("came", 0xff000000, x.sum(true, 32, 0, 1));
    }

    /** Promise 14: "NONE for another what". */
    private static void noneForAnotherWhat() {
        BitRows x = new BitRows(16, 1);
        int[] due = {16, 1, 0, 0, 0, 0, 0, 0};
        for (int what = 0; what < 8; what++) {
            CHECKS.due("told(" + what + ")", due[what], x.told(what));
        }
        for (int what : new int[] {MIN, MIN + 2, -8, -2, -1, 8, 9, 10, 256, 0x10002, 0x40000000, MAX}) {
            CHECKS.due("told(" + what + ")", BitRows.NONE, x.told(what));
        }
    }

    /** Promise 14 of rows as full as they may be. */
    private static void toldOfFullRows() {
        BitRows runs = new BitRows(2, 0);
        for (int i = 0; i < 98; i++) {
            runs.put(32, -1);
        }
        runs.put(16, 0);
        runs.put(32, -1);
        runs.put(8, -1);
        runs.put(2, -1);
        CHECKS.dueTold("written by runs of two", runs, 4783, 98 * 16 + 16 + 4 + 1, 0, 0, 0, 0);
        runs.pass(0, 600);
        Checks.feedAll(runs, 0, 0, 0);
        for (int i = 0; i < 98; i++) {
            runs.get(32);
        }
        runs.get(16);
        runs.get(32);
        CHECKS.due("bits 1 up to the last whole byte", 0xfc, runs.get(8));
        CHECKS.due("the rest", 0, runs.get(21));
        CHECKS.dueTold("read by runs of two", runs, 4783, 1589, 600, 4800, 1587, 0);
        BitRows bytes = new BitRows(1, 1);
        for (int i = 0; i < 150; i++) {
            Checks.feedAll(bytes, 255, 127);
        }
        for (int i = 0; i < 150; i++) {
            bytes.get(15);
        }
        CHECKS.dueTold("read by bytes", bytes, 0, 0, 300, 2400, 150, 0);
    }

    /** Promise 15 of an empty row: it stays one. */
    private static void clearOfEmptyRows(int order) {
        for (int stuffing = 0; stuffing <= 16; stuffing++) {
            BitRows x = new BitRows(stuffing, order);
            x.clear();
            x.clear();
            CHECKS.due("stuffing", stuffing, x.told(0));
            CHECKS.due("order", order, x.told(1));
            CHECKS.dueTold("clear of an empty row", x, 0, 0, 0, 0, 0, 0);
            CHECKS.due("put(1, 1)", 0, x.put(1, 1));
            CHECKS.due("feed(0)", 1, x.feed(0));
            CHECKS.due("get(1)", 0, x.get(1));
        }
    }

    /** Promise 15: "Nothing is written, nothing came": all may be written, and come, again. */
    private static void clearOfFullRows(int order) {
        BitRows x = Checks.filled(0, order, 4752);
        x.patch(4720, 32, -1);
        x.patch(0, 32, -1);
        x.pass(0, 594);
        Checks.feedAll(x, 255, 255, 255, 255, 255, 255);
        x.get(32);
        x.clear();
        CHECKS.dueTold("clear of a full row", x, 0, 0, 0, 0, 0, 0);
        CHECKS.refused("byteAt(0)", INDEX, x, () -> x.byteAt(0));
        CHECKS.refused("find(1)", INDEX, x, () -> x.find(1));
        CHECKS.due("find(0)", BitRows.NONE, x.find(0));
        CHECKS.due("get(1)", BitRows.NONE, x.get(1));
        CHECKS.due("put(1, 0)", 0, x.put(1, 0));
        CHECKS.due("its other bits are 0", 0, x.byteAt(0));
        Checks.fillTo(x, 4783);
        CHECKS.refused("put(1, 1)", UnsupportedOperationException.class, x, () -> x.put(1, 1));
        CHECKS.due("pass(0, 600)", 597, x.pass(0, 600));
        Checks.feedAll(x, 0, 0, 0);
        CHECKS.refused("feed(0)", UnsupportedOperationException.class, x, () -> x.feed(0));
        CHECKS.due("all bytes are 0", x.sum(true, 32, 0, 598), x.sum(false, 32, 0, 598));
    }

    /** Promise 15: no run, no 255 and no mark before it counts behind it. */
    private static void clearOfWhatWaits(int order) {
        for (int n = 2; n <= 16; n++) {
            BitRows runs = new BitRows(n, order);
            runs.put(n - 1, -1);
            Checks.feedBits(runs, "1".repeat(n - 1));
            runs.get(n - 1);
            runs.clear();
            runs.put(n - 1, -1);
            CHECKS.dueTold("runs of " + n, runs, n - 1, 0);
            Checks.feedBits(runs, "1".repeat(n - 1));
            CHECKS.due("a run read, " + n, (1 << n - 1) - 1, runs.get(n - 1));
            CHECKS.dueTold("a run read, " + n, runs, n - 1, 0, n < 10 ? 1 : 2, n - 1, 0, 0);
            runs.clear();
            runs.put(n, -1);
            CHECKS.dueTold("a run from clear on, " + n, runs, n + 1, 1);
            Checks.feedBits(runs, "1".repeat(n) + "0");
            CHECKS.due("a run read from clear on, " + n, (1 << n) - 1, runs.get(n));
            CHECKS.due("its stuffed bit, " + n, 1, runs.told(6));
        }
        BitRows bytes = new BitRows(1, order);
        bytes.put(8, 255);
        Checks.feedAll(bytes, 255, 0);
        bytes.get(8);
        bytes.clear();
        CHECKS.due("no bit is stuffed", 0, bytes.put(8, 255));
        CHECKS.dueTold("no bit is stuffed", bytes, 8, 0);
        bytes.feed(200);
        CHECKS.due("no bit is stuffed", 200, bytes.get(8));
        bytes.clear();
        bytes.put(15, -1);
        CHECKS.dueTold("255 from clear on", bytes, 16, 1);
        Checks.feedAll(bytes, 255, 127);
        CHECKS.due("255 read from clear on", 0x7fff, bytes.get(15));
        BitRows marks = new BitRows(1, order);
        marks.put(8, 0);
        marks.mark(255);
        Checks.feedAll(marks, 0, 255, 255);
        marks.get(8);
        marks.take();
        marks.clear();
        marks.put(8, 0);
        marks.put(16, order == 0 ? 0x00ff : 0xff00);
        CHECKS.due("255 is by no mark", 7, marks.align());
        Checks.feedAll(marks, 0, 0, 255, 1);
        CHECKS.due("get(24)", order == 0 ? 255 : 255 << 16, marks.get(24));
        CHECKS.due("255 is by no mark", 7, marks.skip());
    }
}
