/**
 * The sentences of the document's Terms that name a boundary case, up to what a mark is, each one
 * with a test of its own that quotes it. Those on reading and on sums are in EdgesOfReadingTermsTest.
 */
public final class EdgesOfTermsTest {
    private static final Checks CHECKS = new Checks();

    public static void main(String[] args) {
        firstAndEighthBitOfAByte();
        highestAndLowestBitOfAField();
        stuffingsBesideTheirEnds();
        for (int order = 0; order < 2; order++) {
            stuffedBehind255Alone(order);
            notStuffedBehindAMark(order);
            behindNBitsOne(order);
            countedAnew(order);
            overBytes(order);
            stuffedAtOnceByRuns(order);
            alignedRows(order);
            zerosTillItIsAligned(order);
            widestFieldsBelowTheLimit(order);
            aligningCountsAs16(order);
            aMarkCountsAs32(order);
            theFullestRows(order);
            marksAsTheyAre(order);
        }
        stuffedByBytesBeforeOrBehind();
        stuffedWithTheNextBitHighFirst();
        stuffedAtOnceLowFirst();
        stuffedBitsCountAndWaitingOnesDoNot();
        marksOnlyByBytes();
        CHECKS.end();
    }

    /** "HIGH FIRST (order 0), the first one is the highest of its byte ... LOW FIRST (any other order)". */
    private static void firstAndEighthBitOfAByte() {
        for (int order : new int[] {0, 1, -1, 2, 256, Integer.MIN_VALUE, Integer.MAX_VALUE}) {
            for (int place = 0; place <= 8; place++) {
                BitRows x = Checks.filled(0, order, place);
                x.put(1, 1);
                int b = order == 0 ? 128 >> place % 8 : 1 << place % 8;
                String what = "bit " + place + " in order " + order;
                if (place < 8) {
                    CHECKS.dueBytes(what, x, b);
                } else {
                    CHECKS.dueBytes(what, x, 0, b);
                    x.feed(0);
                }
                x.feed(b);
                CHECKS.due(what + " read", order == 0 ? 1 : 1L << place, x.get(place + 1));
            }
        }
    }

    /** "a field's highest bit comes first; or ... a field's lowest bit comes first". */
    private static void highestAndLowestBitOfAField() {
        for (int bits = 2; bits <= 32; bits++) {
            String zeros = "0".repeat(bits - 1);
            int highest = 1 << bits - 1;
            for (int order = 0; order < 2; order++) {
                BitRows high = new BitRows(0, order);
                high.put(bits, highest);
                CHECKS.dueBits("highest of " + bits, high, order == 0 ? "1" + zeros : zeros + "1");
                BitRows low = new BitRows(0, order);
                low.put(bits, 1);
                CHECKS.dueBits("lowest of " + bits, low, order == 0 ? zeros + "1" : "1" + zeros);
                Checks.feedBits(high, order == 0 ? "1" + zeros : zeros + "1");
                CHECKS.due("highest of " + bits + " read", highest & 0xffffffffL, high.get(bits));
            }
        }
    }

    /** "STUFFING is 0 none; 1 BY BYTES; or n, 2 .. 16, BY RUNS (another number counts as the nearest)". */
    private static void stuffingsBesideTheirEnds() {
        String ones = "1".repeat(32);
        for (int order = 0; order < 2; order++) {
            for (int none : new int[] {Integer.MIN_VALUE, Integer.MIN_VALUE + 1, -2, -1, 0}) {
                dueOfOnes(none, order, ones);
            }
            dueOfOnes(1, order, order == 0 ? "11111111 01111111 11111111 01111111 11"
                    : "11111111 11111110 11111111 11111110 11");
            dueOfOnes(2, order, "110".repeat(16));
            dueOfOnes(15, order, "1".repeat(15) + "0" + "1".repeat(15) + "011");
            for (int longest : new int[] {16, 17, 18, Integer.MAX_VALUE - 1, Integer.MAX_VALUE}) {
                dueOfOnes(longest, order, ("1".repeat(16) + "0").repeat(2));
            }
        }
    }

    private static void dueOfOnes(int stuffing, int order, String bits) {
        BitRows x = new BitRows(stuffing, order);
        x.put(32, -1);
        CHECKS.dueBits("32 bits 1 with stuffing " + stuffing + ", order " + order, x, bits);
    }

    /** "in a byte that comes behind one that is 255 ... the highest bit is stuffed, 0". */
    private static void stuffedBehind255Alone(int order) {
        for (int b = 0; b < 256; b++) {
            BitRows x = new BitRows(1, order);
            x.put(8, b);
            x.put(8, 255);
            String what = "behind " + b + ", order " + order;
            CHECKS.dueTold(what, x, b == 255 ? 17 : 16, b == 255 ? 1 : 0);
            CHECKS.due(what, b == 255 ? 127 : 255, x.byteAt(1));
        }
        BitRows part = new BitRows(1, order);
        part.put(7, 127);
        CHECKS.due("seven bits 1 are no 255", 7, part.put(1, 0));
        part.put(8, 255);
        CHECKS.dueTold("seven bits 1 are no 255", part, 16, 0);
        BitRows two = new BitRows(1, order);
        two.put(15, -1);
        two.put(8, 255);
        CHECKS.dueBytes("127 with a stuffed bit is no 255", two, 255, 127, 255);
    }

    /** "high first before all of its bits, low first behind them". */
    private static void stuffedByBytesBeforeOrBehind() {
        BitRows high = new BitRows(1, 0);
        high.put(8, 255);
        high.put(7, 0x41);
        CHECKS.dueBits("high first before its bits", high, "11111111 0 1000001");
        BitRows low = new BitRows(1, 1);
        low.put(8, 255);
        low.put(7, 0x41);
        CHECKS.dueBits("low first behind its bits", low, "11111111 1000001 0");
    }

    /** "behind one that is 255 (not by a mark)", "nothing is stuffed behind these by them". */
    private static void notStuffedBehindAMark(int order) {
        for (int code = 128; code < 256; code++) {
            BitRows x = new BitRows(1, order);
            x.mark(code);
            CHECKS.due("put behind mark " + code, 16, x.put(8, 255));
            CHECKS.dueTold("behind mark " + code, x, 24, 0);
            CHECKS.dueBytes("behind mark " + code, x, 255, code, 255);
            x.put(7, 127);
            CHECKS.dueTold("a byte later", x, 32, 1);
        }
    }

    /** "behind n bits 1, one behind the other, a bit 0 is stuffed". */
    private static void behindNBitsOne(int order) {
        for (int n = 2; n <= 16; n++) {
            String run = "1".repeat(n - 1);
            BitRows x = new BitRows(n, order);
            x.put(n - 1, -1);
            CHECKS.dueBits("a bit fewer than " + n, x, run);
            CHECKS.due("none stuffed", 0, x.told(3));
            x.put(1, 1);
            CHECKS.dueBits("a run of " + n, x, run + "10");
            CHECKS.due("one stuffed", 1, x.told(3));
            BitRows broken = new BitRows(n, order);
            broken.put(n - 1, -1);
            broken.put(1, 0);
            broken.put(n - 1, -1);
            CHECKS.dueBits("not one behind the other, " + n, broken, run + "0" + run);
        }
    }

    /** "then they are counted anew". */
    private static void countedAnew(int order) {
        for (int n = 2; n <= 16; n++) {
            String run = "1".repeat(n);
            BitRows x = new BitRows(n, order);
            Checks.putOnes(x, 2 * n - 1);
            CHECKS.dueBits("a bit fewer than two runs of " + n, x, run + "0" + run.substring(1));
            Checks.putOnes(x, 1);
            CHECKS.dueBits("two runs of " + n, x, run + "0" + run + "0");
            BitRows field = new BitRows(n, order);
            field.put(32, -1);
            CHECKS.dueTold("in one field, runs of " + n, field, 32 + 32 / n, 32 / n);
        }
    }

    /** "(over bytes; not over marks)". */
    private static void overBytes(int order) {
        for (int n = 2; n <= 16; n++) {
            for (int before = 0; before < 8; before++) {
                BitRows x = Checks.filled(n, order, before);
                Checks.putOnes(x, n);
                CHECKS.dueBits("a run of " + n + " behind " + before, x,
                        "0".repeat(before) + "1".repeat(n) + "0");
            }
        }
    }

    /** "A bit that is stuffed by bytes, high first, comes only with the next bit". */
    private static void stuffedWithTheNextBitHighFirst() {
        BitRows x = new BitRows(1, 0);
        x.put(7, 127);
        CHECKS.due("the eighth bit", 7, x.put(1, 1));
        CHECKS.dueTold("it waits", x, 8, 0);
        CHECKS.refused("its byte is not there", IndexOutOfBoundsException.class, x, () -> x.byteAt(1));
        CHECKS.due("the next bit", 9, x.put(1, 0));
        CHECKS.dueTold("it came", x, 10, 1);
        BitRows aligned = new BitRows(1, 0);
        aligned.put(8, 255);
        CHECKS.due("with a bit of aligning", 7, aligned.align());
        CHECKS.dueTold("with a bit of aligning", aligned, 16, 1);
        BitRows marked = new BitRows(1, 0);
        marked.put(8, 255);
        CHECKS.due("with a bit before a mark", 2, marked.mark(128));
        CHECKS.dueTold("with a bit before a mark", marked, 32, 1);
    }

    /** "all others at once": by bytes, low first. */
    private static void stuffedAtOnceLowFirst() {
        BitRows x = new BitRows(1, 1);
        x.put(8, 255);
        for (int k = 1; k <= 6; k++) {
            CHECKS.due("bit " + k + " behind 255", 7 + k, x.put(1, 0));
            CHECKS.dueTold("bit " + k + " behind 255", x, 8 + k, 0);
        }
        CHECKS.due("bit 7 behind 255", 14, x.put(1, 0));
        CHECKS.dueTold("bit 7 behind 255", x, 16, 1);
        CHECKS.due("the bit behind the stuffed one", 16, x.put(1, 0));
    }

    /** "all others at once": by runs, at a byte's end too. */
    private static void stuffedAtOnceByRuns(int order) {
        for (int n = 2; n <= 16; n++) {
            int before = 16 - n;
            BitRows x = Checks.filled(n, order, before);
            Checks.putOnes(x, n);
            CHECKS.dueTold("a run of " + n + " that ends a byte", x, 17, 1);
            CHECKS.due("its stuffed bit makes a byte", 0, x.byteAt(2));
            CHECKS.due("the next bit", 17, x.put(1, 1));
        }
    }

    /** "ALIGNED is a row whose bits fill whole bytes, and, by bytes, whose last byte is not 255". */
    private static void alignedRows(int order) {
        for (int stuffing : new int[] {0, 1, 9, 16}) {
            BitRows x = new BitRows(stuffing, order);
            CHECKS.due("an empty row, stuffing " + stuffing, 0, x.align());
            for (int last : new int[] {254, 0, 127, 0}) {
                x.put(8, last);
                CHECKS.due(last + ", stuffing " + stuffing, 0, x.align());
            }
            x.put(8, 255);
            CHECKS.due("255, stuffing " + stuffing, stuffing == 1 ? 7 : 0, x.align());
            CHECKS.due("twice, stuffing " + stuffing, 0, x.align());
        }
        BitRows marked = new BitRows(1, order);
        marked.mark(255);
        CHECKS.due("255 by a mark", 0, marked.align());
        marked.put(8, 255);
        CHECKS.due("255 behind a mark", 7, marked.align());
    }

    /** "ALIGNING puts bits 0 till it is". */
    private static void zerosTillItIsAligned(int order) {
        for (int stuffing : new int[] {0, 1, 8, 16}) {
            for (int bits = 1; bits < 8; bits++) {
                BitRows x = new BitRows(stuffing, order);
                x.put(bits, -1);
                CHECKS.due("aligning behind " + bits, 8 - bits, x.align());
                CHECKS.dueBits("aligning behind " + bits, x, "1".repeat(bits) + "0".repeat(8 - bits));
            }
        }
        for (int bits = 0; bits <= 7; bits++) {
            BitRows x = new BitRows(1, order);
            x.put(8 + bits, -1);
            CHECKS.due("aligning " + bits + " behind 255", 7 - bits, x.align());
            String field = "1".repeat(bits) + "0".repeat(7 - bits);
            CHECKS.dueBits("aligning " + bits + " behind 255", x,
                    "11111111" + (order == 0 ? "0" + field : field + "0"));
            CHECKS.due("one stuffed", 1, x.told(3));
        }
    }

    /** "if the bits there are, twice those that come, and 16 are above 4800". */
    private static void widestFieldsBelowTheLimit(int order) {
        for (int stuffing : new int[] {0, 1, 2, 16}) {
            for (int bits = 1; bits <= 32; bits++) {
                int width = bits;
                int last = 4784 - 2 * bits;
                String what = "put(" + bits + ") with stuffing " + stuffing + " at ";
                BitRows over = Checks.filled(stuffing, order, last + 1);
                CHECKS.refused(what + (last + 1), UnsupportedOperationException.class, over,
                        () -> over.put(width, 0));
                BitRows x = Checks.filled(stuffing, order, last);
                if (bits < 32) {
                    CHECKS.refused("a bit more: " + what + last, UnsupportedOperationException.class, x,
                            () -> x.put(width + 1, 0));
                }
                CHECKS.due(what + last, last, x.put(bits, 0));
                CHECKS.due(what + last + ": bits written", last + bits, x.told(2));
            }
        }
    }

    /** "(aligning counts as 16 bits ...)", also where fewer bits come, or none. */
    private static void aligningCountsAs16(int order) {
        for (int stuffing : new int[] {0, 1, 2, 16}) {
            for (int bits = 4745; bits <= 4752; bits++) {
                BitRows x = Checks.filled(stuffing, order, bits);
                CHECKS.due("align at " + bits, 4752 - bits, x.align());
            }
            for (int bits = 4753; bits <= 4761; bits++) {
                BitRows x = Checks.filled(stuffing, order, bits);
                CHECKS.refused("align at " + bits, UnsupportedOperationException.class, x, () -> x.align());
            }
            BitRows full = Checks.filled(stuffing, order, 4783);
            CHECKS.refused("align a full row", UnsupportedOperationException.class, full, () -> full.align());
        }
    }

    /** "(... a mark as 32)", with the bits that align the row before it. */
    private static void aMarkCountsAs32(int order) {
        for (int bits = 4713; bits <= 4720; bits++) {
            BitRows x = Checks.filled(1, order, bits);
            CHECKS.due("mark at " + bits, 590, x.mark(128));
            CHECKS.dueTold("mark at " + bits, x, 4736, 0);
        }
        for (int bits : new int[] {4721, 4727, 4728, 4736, 4783}) {
            BitRows x = Checks.filled(1, order, bits);
            CHECKS.refused("mark at " + bits, UnsupportedOperationException.class, x, () -> x.mark(128));
        }
    }

    /** "the bits there are": with stuffed ones, but without one that waits for the next bit. */
    private static void stuffedBitsCountAndWaitingOnesDoNot() {
        BitRows runs = new BitRows(2, 0);
        for (int i = 0; i < 98; i++) {
            runs.put(32, -1);
        }
        runs.put(15, 0);
        CHECKS.dueTold("by runs", runs, 4719, 98 * 16);
        runs.put(1, 0);
        CHECKS.due("the last field of 32 bits 1", 4720, runs.put(32, -1));
        CHECKS.dueTold("by runs", runs, 4768, 99 * 16);
        CHECKS.refused("put(9) at 4768", UnsupportedOperationException.class, runs, () -> runs.put(9, -1));
        CHECKS.due("put(8) at 4768", 4768, runs.put(8, -1));
        BitRows waiting = Checks.filled(1, 0, 4768);
        waiting.put(8, 255);
        CHECKS.refused("put(5) where one waits", UnsupportedOperationException.class, waiting,
                () -> waiting.put(5, 0));
        CHECKS.due("put(4) where one waits", 4777, waiting.put(4, 0));
        BitRows aligned = Checks.filled(1, 0, 4744);
        aligned.put(8, 255);
        CHECKS.due("align where one waits", 7, aligned.align());
        CHECKS.dueTold("align where one waits", aligned, 4760, 1);
        BitRows marked = Checks.filled(1, 0, 4712);
        marked.put(8, 255);
        CHECKS.due("mark where one waits", 591, marked.mark(255));
        CHECKS.dueTold("mark where one waits", marked, 4744, 1);
    }

    /** What the limit leaves for the fullest rows: the last bit, with a stuffed one behind it. */
    private static void theFullestRows(int order) {
        BitRows plain = Checks.filled(0, order, 4783);
        CHECKS.refused("put(1) at 4783", UnsupportedOperationException.class, plain, () -> plain.put(1, 1));
        CHECKS.due("its last byte", 0, plain.byteAt(597));
        CHECKS.due("its last bit", 0, plain.patch(4782, 1, 1));
        CHECKS.due("its last byte", order == 0 ? 2 : 64, plain.byteAt(597));
        for (int n = 2; n <= 16; n++) {
            BitRows runs = Checks.filled(n, order, 4783 - n);
            Checks.putOnes(runs, n);
            CHECKS.dueTold("a run of " + n + " at the end", runs, 4784, 1);
            CHECKS.refused("put(1) at 4784", UnsupportedOperationException.class, runs, () -> runs.put(1, 0));
            CHECKS.due("all are whole bytes", 598, runs.pass(0, 600));
        }
        if (order == 1) {
            BitRows bytes = Checks.filled(1, 1, 4768);
            bytes.put(8, 255);
            Checks.putOnes(bytes, 7);
            CHECKS.dueTold("by bytes, low first", bytes, 4784, 1);
            CHECKS.due("its last byte", 127, bytes.byteAt(597));
            CHECKS.refused("put(1) at 4784", UnsupportedOperationException.class, bytes, () -> bytes.put(1, 0));
        }
    }

    /** "A MARK, only by bytes". */
    private static void marksOnlyByBytes() {
        for (int stuffing = -1; stuffing <= 17; stuffing++) {
            BitRows x = new BitRows(stuffing, 0);
            if (stuffing == 1) {
                CHECKS.due("mark by bytes", 0, x.mark(128));
            } else {
                CHECKS.refused("mark with stuffing " + stuffing, IllegalStateException.class, x,
                        () -> x.mark(128));
            }
        }
    }

    /** "the row is aligned; then two bytes, 255 and a code from 128 on, come as they are". */
    private static void marksAsTheyAre(int order) {
        for (int code : new int[] {128, 129, 254, 255}) {
            BitRows x = new BitRows(1, order);
            CHECKS.due("mark in an empty row", 0, x.mark(code));
            CHECKS.due("mark behind a mark", 2, x.mark(code));
            x.put(1, 1);
            CHECKS.due("mark behind one bit", 5, x.mark(code));
            x.put(8, 255);
            CHECKS.due("mark behind 255", 9, x.mark(code));
            CHECKS.dueBytes("marks of " + code, x, 255, code, 255, code, order == 0 ? 128 : 1, 255, code,
                    255, 0, 255, code);
            CHECKS.dueTold("marks of " + code, x, 88, 1);
        }
        BitRows x = new BitRows(1, order);
        CHECKS.refused("mark(127)", IllegalArgumentException.class, x, () -> x.mark(127));
        CHECKS.refused("mark(256)", IllegalArgumentException.class, x, () -> x.mark(256));
    }
}
