/** The boundary cases of promises 1 to 6: each sentence that names one has a test that quotes it. */
public final class EdgesOfWritingTest {
    private static final Checks CHECKS = new Checks();
    private static final Class<IndexOutOfBoundsException> INDEX = IndexOutOfBoundsException.class;
    private static final Class<IllegalArgumentException> ARGUMENT = IllegalArgumentException.class;
    private static final Class<IllegalStateException> STATE = IllegalStateException.class;
    private static final Class<UnsupportedOperationException> OPERATION = UnsupportedOperationException.class;

    /** Numbers that eight times themselves, or a bit more than themselves, wrap around. */
    private static final int[] FAR = {Integer.MIN_VALUE, Integer.MIN_VALUE + 1, -0x20000000, -0x10000000, -1,
        0x10000000, 0x20000000, 0x40000000, Integer.MAX_VALUE - 7, Integer.MAX_VALUE - 1, Integer.MAX_VALUE};

    /** None of these is a width of a field; twice some of them wraps around to a small number. */
    private static final int[] NO_WIDTHS = {Integer.MIN_VALUE, Integer.MIN_VALUE + 1, -0x40000000, -32, -1, 0,
        33, 34, 64, 0x40000000, 0x7ffffff8, Integer.MAX_VALUE};

    public static void main(String[] args) {
        newStuffingsAndOrders();
        anEmptyRow();
        for (int order = 0; order < 2; order++) {
            widthsOfPut(order);
            theLowestBitsOfV(order);
            placesWithStuffedOnes(order);
            howManyWereAligned(order);
            codesOfMarks(order);
            theFirstAndTheLastPlaceOfPatch(order);
            widthsOfPatch(order);
            patchOfAFullRow(order);
            theFirstAndTheLastByte(order);
            bitsThatAByteHasNotYet(order);
            theLastByteOfAFullRow(order);
        }
        notByBytes();
        anyStuffing();
        CHECKS.end();
    }

    /** Promise 1: "(0, 1, 2 .. 16; another one counts as the nearest of these)". */
    private static void newStuffingsAndOrders() {
        for (int stuffing = -3; stuffing <= 20; stuffing++) {
            int nearest = stuffing < 0 ? 0 : stuffing > 16 ? 16 : stuffing;
            CHECKS.due("stuffing " + stuffing, nearest, new BitRows(stuffing, 0).told(0));
        }
        for (int far : FAR) {
            CHECKS.due("stuffing " + far, far < 0 ? 0 : 16, new BitRows(far, far).told(0));
            CHECKS.due("order " + far, 1, new BitRows(far, far).told(1));
        }
        CHECKS.due("order 0", 0, new BitRows(0, 0).told(1));
    }

    /** Promise 1: "An empty row". */
    private static void anEmptyRow() {
        for (int stuffing = 0; stuffing <= 16; stuffing++) {
            for (int order = 0; order < 2; order++) {
                BitRows x = new BitRows(stuffing, order);
                CHECKS.dueTold("a new row", x, 0, 0, 0, 0, 0, 0);
                CHECKS.refused("byteAt(0)", INDEX, x, () -> x.byteAt(0));
                CHECKS.refused("pass(0, 0)", INDEX, x, () -> x.pass(0, 0));
                CHECKS.refused("find(1)", INDEX, x, () -> x.find(1));
                CHECKS.refused("sum of a byte written", INDEX, x, () -> x.sum(false, 16, 0, 1));
                CHECKS.refused("sum of a byte that came", INDEX, x, () -> x.sum(true, 16, 0, 1));
                CHECKS.due("get(1)", BitRows.NONE, x.get(1));
                CHECKS.due("skip()", 0, x.skip());
                CHECKS.due("take()", BitRows.NONE, x.take());
                CHECKS.due("find(0)", BitRows.NONE, x.find(0));
                CHECKS.due("align()", 0, x.align());
                CHECKS.due("put(1, 1)", 0, x.put(1, 1));
            }
        }
    }

    /** Promise 2: "A field of 1 .. 32 bits". */
    private static void widthsOfPut(int order) {
        for (int stuffing : new int[] {0, 1, 2, 16}) {
            for (int bits = 1; bits <= 32; bits++) {
                BitRows x = new BitRows(stuffing, order);
                CHECKS.due("put(" + bits + ", 0)", 0, x.put(bits, 0));
                CHECKS.due("put(" + bits + ", 0)", bits, x.told(2));
            }
            BitRows x = new BitRows(stuffing, order);
            x.put(9, -1);
            BitRows full = Checks.filled(stuffing, order, 4783);
            for (int bits : NO_WIDTHS) {
                CHECKS.refused("put(" + bits + ", 1)", ARGUMENT, x, () -> x.put(bits, 1));
                CHECKS.refused("put(" + bits + ", 1) in a full row", ARGUMENT, full, () -> full.put(bits, 1));
            }
            CHECKS.refused("put(1, 1) in a full row", OPERATION, full, () -> full.put(1, 1));
            CHECKS.refused("put(32, 1) in a full row", OPERATION, full, () -> full.put(32, 1));
        }
    }

    /** Promise 2: "the lowest ones of v". */
    private static void theLowestBitsOfV(int order) {
        for (int bits = 1; bits <= 32; bits++) {
            int lowest = bits == 32 ? -1 : (1 << bits) - 1;
            BitRows zeros = new BitRows(0, order);
            zeros.put(bits, ~lowest);
            CHECKS.dueBits("none of the lowest " + bits, zeros, "0".repeat(bits));
            BitRows ones = new BitRows(0, order);
            ones.put(bits, lowest);
            CHECKS.dueBits("the lowest " + bits, ones, "1".repeat(bits));
            BitRows all = new BitRows(0, order);
            all.put(bits, -1);
            CHECKS.dueBits("the lowest " + bits + " of all", all, "1".repeat(bits));
        }
    }

    /** Promise 2: "the place where its first bit stands (bits before it, with stuffed ones)". */
    private static void placesWithStuffedOnes(int order) {
        BitRows bytes = new BitRows(1, order);
        CHECKS.due("at first", 0, bytes.put(8, 254));
        CHECKS.due("behind 254", 8, bytes.put(8, 255));
        CHECKS.due("behind 255", order == 0 ? 17 : 16, bytes.put(7, 1));
        CHECKS.due("behind a byte behind 255", 24, bytes.put(8, 255));
        bytes.mark(255);
        CHECKS.due("behind a mark", 56, bytes.put(1, 1));
        for (int n = 2; n <= 16; n++) {
            BitRows runs = new BitRows(n, order);
            runs.put(n - 1, -1);
            CHECKS.due("in a run of " + n, n - 1, runs.put(1, 1));
            CHECKS.due("behind a run of " + n, n + 1, runs.put(1, 1));
            CHECKS.due("in the next run of " + n, n + 2, runs.put(1, 0));
        }
    }

    /** Promise 3: "how many bits were put, without stuffed ones". */
    private static void howManyWereAligned(int order) {
        for (int stuffing : new int[] {0, 1, 2, 16}) {
            for (int bits = 0; bits <= 16; bits++) {
                BitRows x = Checks.filled(stuffing, order, bits);
                CHECKS.due("align behind " + bits + ", stuffing " + stuffing, (16 - bits) % 8, x.align());
                CHECKS.due("align again", 0, x.align());
                CHECKS.dueTold("align behind " + bits, x, (bits + 7) / 8 * 8, 0);
            }
        }
        BitRows x = new BitRows(1, order);
        x.put(8, 255);
        CHECKS.due("behind 255, without the stuffed one", 7, x.align());
        x.put(14, -1);
        CHECKS.due("six bits behind 255", 1, x.align());
        x.put(15, -1);
        CHECKS.due("seven bits behind 255", 0, x.align());
        CHECKS.dueTold("with the stuffed ones", x, 48, 3);
    }

    /** Promise 4: "IllegalArgument: the code is not 128 .. 255". */
    private static void codesOfMarks(int order) {
        for (int code = -2; code < 260; code++) {
            BitRows x = new BitRows(1, order);
            x.put(3, 5);
            int c = code;
            if (code >= 128 && code <= 255) {
                CHECKS.due("mark(" + code + ")", 1, x.mark(code));
            } else {
                CHECKS.refused("mark(" + code + ")", ARGUMENT, x, () -> x.mark(c));
            }
        }
        BitRows x = new BitRows(1, order);
        for (int code : FAR) {
            CHECKS.refused("mark(" + code + ")", ARGUMENT, x, () -> x.mark(code));
        }
        BitRows full = Checks.filled(1, order, 4721);
        CHECKS.refused("mark(127) at 4721", ARGUMENT, full, () -> full.mark(127));
        CHECKS.refused("mark(256) at 4721", ARGUMENT, full, () -> full.mark(256));
        CHECKS.refused("mark(128) at 4721", OPERATION, full, () -> full.mark(128));
        CHECKS.refused("mark(255) at 4721", OPERATION, full, () -> full.mark(255));
    }

    /** Promise 4: "IllegalState: it is not by bytes", before all else. */
    private static void notByBytes() {
        for (int stuffing : new int[] {Integer.MIN_VALUE, -1, 0, 2, 3, 16, 17, Integer.MAX_VALUE}) {
            BitRows x = new BitRows(stuffing, 0);
            BitRows full = Checks.filled(stuffing, 1, 4783);
            for (int code : new int[] {Integer.MIN_VALUE, -1, 0, 127, 128, 255, 256, Integer.MAX_VALUE}) {
                CHECKS.refused("mark(" + code + "), stuffing " + stuffing, STATE, x, () -> x.mark(code));
                CHECKS.refused("mark(" + code + ") in a full row", STATE, full, () -> full.mark(code));
            }
        }
    }

    /** Promise 5: "Bits from a place on become a field", "IndexOutOfBounds: they are not all there". */
    private static void theFirstAndTheLastPlaceOfPatch(int order) {
        for (int bits = 1; bits <= 32; bits++) {
            int width = bits;
            int last = 45 - bits;
            BitRows x = new BitRows(0, order);
            x.put(32, -1);
            x.put(13, -1);
            CHECKS.refused("patch(-1, " + bits + ", 0)", INDEX, x, () -> x.patch(-1, width, 0));
            CHECKS.refused("patch behind the last, " + bits, INDEX, x, () -> x.patch(last + 1, width, 0));
            CHECKS.refused("patch at the end, " + bits, INDEX, x, () -> x.patch(45, width, 0));
            for (int far : FAR) {
                CHECKS.refused("patch(" + far + ", " + bits + ")", INDEX, x, () -> x.patch(far, width, 0));
            }
            int ones = bits == 32 ? -1 : (1 << bits) - 1;
            CHECKS.due("the last place, " + bits, ones, x.patch(last, bits, 0));
            CHECKS.dueBits("the last place, " + bits, x, "1".repeat(last) + "0".repeat(bits));
            CHECKS.due("as it was", 0, x.patch(last, bits, -1));
            CHECKS.due("the first place, " + bits, ones, x.patch(0, bits, 0));
            CHECKS.dueBits("the first place, " + bits, x, "0".repeat(bits) + "1".repeat(last));
        }
        BitRows empty = new BitRows(0, order);
        CHECKS.refused("patch(0, 1) of an empty row", INDEX, empty, () -> empty.patch(0, 1, 1));
        BitRows exact = new BitRows(0, order);
        exact.put(31, 5);
        CHECKS.refused("patch(0, 32) of 31 bits", INDEX, exact, () -> exact.patch(0, 32, 1));
        exact.put(1, order == 0 ? 1 : 0);
        CHECKS.due("patch(0, 32) of 32 bits", order == 0 ? 11 : 5, exact.patch(0, 32, Integer.MIN_VALUE));
        CHECKS.due("a field of 32 bits, as a number of 32", Integer.MIN_VALUE, exact.patch(0, 32, 7));
    }

    /** Promise 5: "IllegalArgument: bits are not 1 .. 32", before a place that is none. */
    private static void widthsOfPatch(int order) {
        BitRows empty = new BitRows(0, order);
        for (int bits : NO_WIDTHS) {
            BitRows x = new BitRows(0, order);
            x.put(32, 0x12345678);
            x.put(32, -1);
            CHECKS.refused("patch(0, " + bits + ")", ARGUMENT, x, () -> x.patch(0, bits, 0));
            CHECKS.refused("patch(-1, " + bits + ")", ARGUMENT, x, () -> x.patch(-1, bits, 0));
            CHECKS.refused("patch(65, " + bits + ")", ARGUMENT, x, () -> x.patch(65, bits, 0));
            CHECKS.refused("patch of nothing", ARGUMENT, empty, () -> empty.patch(0, bits, 0));
        }
    }

    /** Promise 5 in a full row. */
    private static void patchOfAFullRow(int order) {
        BitRows x = Checks.filled(0, order, 4783);
        CHECKS.refused("patch(4783, 1)", INDEX, x, () -> x.patch(4783, 1, 1));
        CHECKS.refused("patch(4752, 32)", INDEX, x, () -> x.patch(4752, 32, 1));
        CHECKS.due("patch(4751, 32)", 0, x.patch(4751, 32, -1));
        CHECKS.due("patch(4782, 1)", 1, x.patch(4782, 1, 0));
        CHECKS.due("no bits came", 4783, x.told(2));
        CHECKS.due("its last byte", order == 0 ? 0xfc : 0x3f, x.byteAt(597));
        CHECKS.due("the byte before it", 255, x.byteAt(596));
    }

    /** Promise 5: "IllegalState: there is any stuffing", before all else. */
    private static void anyStuffing() {
        for (int stuffing = 1; stuffing <= 17; stuffing++) {
            BitRows x = new BitRows(stuffing, 0);
            x.put(20, 0x12345);
            int[][] calls = {{0, 1}, {0, 20}, {19, 1}, {0, 0}, {0, 33}, {-1, 1}, {20, 1}, {-1, 0}, {99, 99},
                {Integer.MAX_VALUE, Integer.MAX_VALUE}};
            for (int[] c : calls) {
                CHECKS.refused("patch(" + c[0] + ", " + c[1] + "), stuffing " + stuffing, STATE, x,
                        () -> x.patch(c[0], c[1], 1));
            }
        }
        BitRows none = new BitRows(-1, 0);
        none.put(2, 1);
        CHECKS.due("stuffing -1 is none", 1, none.patch(0, 2, 3));
    }

    /** Promise 6: "A byte that was written", and no other one. */
    private static void theFirstAndTheLastByte(int order) {
        for (int bits = 0; bits <= 17; bits++) {
            BitRows x = Checks.filled(0, order, bits);
            int bytes = (bits + 7) / 8;
            for (int i = 0; i < bytes; i++) {
                CHECKS.due("byteAt(" + i + ") of " + bits, 0, x.byteAt(i));
            }
            CHECKS.refused("byteAt(" + bytes + ") of " + bits, INDEX, x, () -> x.byteAt(bytes));
            for (int far : FAR) {
                CHECKS.refused("byteAt(" + far + ") of " + bits, INDEX, x, () -> x.byteAt(far));
            }
        }
        BitRows came = new BitRows(0, order);
        came.feed(1);
        CHECKS.refused("a byte that came", INDEX, came, () -> came.byteAt(0));
    }

    /** Promise 6: "bits that it has not yet are 0". */
    private static void bitsThatAByteHasNotYet(int order) {
        for (int stuffing : new int[] {0, 1, 9, 16}) {
            BitRows x = new BitRows(stuffing, order);
            for (int bits = 1; bits <= 8; bits++) {
                x.put(1, 1);
                CHECKS.due(bits + " bits", order == 0 ? 0xff00 >> bits & 255 : (1 << bits) - 1, x.byteAt(0));
            }
            CHECKS.refused("no bit of the next byte", INDEX, x, () -> x.byteAt(1));
        }
    }

    /** Promise 6 in a full row. */
    private static void theLastByteOfAFullRow(int order) {
        BitRows x = Checks.filled(0, order, 4782);
        x.put(1, 1);
        CHECKS.due("byteAt(597)", order == 0 ? 2 : 64, x.byteAt(597));
        for (int i : new int[] {598, 599, 600, 601}) {
            CHECKS.refused("byteAt(" + i + ")", INDEX, x, () -> x.byteAt(i));
        }
    }
}
