/**
 * The sentences of the document's Terms on reading and on sums that name a boundary case, each one
 * with a test of its own that quotes it.
 */
public final class EdgesOfReadingTermsTest {
    private static final Checks CHECKS = new Checks();

    public static void main(String[] args) {
        for (int order = 0; order < 2; order++) {
            sixHundredBytes(order);
            overTheBytesEnd(order);
            marksFrom128On(order);
            marksOnlyByBytes(order);
            marksAtAByteAlone(order);
            notReadInPart(order);
            onlyIfAllAreThere(order);
            notStuffedBehindAMark(order);
            stuffedBitsOne(order);
            badForGood(order);
            withTheBitBeforeIt(order);
            thereOnlyTogether(order);
        }
        stuffedByBytesHighFirst();
        stuffedByBytesLowFirst();
        sumsOf16();
        sumsOf32();
        CHECKS.end();
    }

    /** "the bytes that came, 600 at most". */
    private static void sixHundredBytes(int order) {
        BitRows x = Checks.filled(0, order, 4768);
        x.put(8, 0xc1);
        CHECKS.due("bytes of a row", 597, x.pass(0, 600));
        CHECKS.due("byte 598", 598, x.feed(1));
        CHECKS.due("byte 599", 599, x.feed(2));
        CHECKS.due("byte 600", 600, x.feed(3));
        CHECKS.refused("byte 601", UnsupportedOperationException.class, x, () -> x.feed(4));
        CHECKS.refused("pass of byte 601", UnsupportedOperationException.class, x, () -> x.pass(0, 1));
        CHECKS.due("pass of none", 0, x.pass(0, 0));
        for (int i = 0; i < 149; i++) {
            CHECKS.due("bits of the row", 0, x.get(32));
        }
        CHECKS.due("the last bits", order == 0 ? 0xc1010203L : 0x030201c1L, x.get(32));
        CHECKS.dueTold("all are read", x, 4776, 0, 600, 4800, 0, 0);
        CHECKS.due("behind them", BitRows.NONE, x.get(1));
        CHECKS.due("behind them", 0, x.skip());
        CHECKS.due("behind them", BitRows.NONE, x.take());
    }

    /** "READING goes on bit by bit in the bytes that came". */
    private static void overTheBytesEnd(int order) {
        for (int first = 1; first < 8; first++) {
            BitRows x = new BitRows(0, order);
            Checks.feedAll(x, 0xb2, 0x4d);
            long both = order == 0 ? 0xb24d : 0x4db2;
            long before = order == 0 ? both >> 16 - first : both & (1 << first) - 1;
            long behind = order == 0 ? both & (1 << 16 - first) - 1 : both >> first;
            CHECKS.due("get(" + first + ")", before, x.get(first));
            CHECKS.due("the rest of two bytes", behind, x.get(16 - first));
        }
    }

    /** "it finds a MARK ... where 255 has a byte from 128 on behind it". */
    private static void marksFrom128On(int order) {
        for (int b = 0; b < 256; b++) {
            BitRows x = new BitRows(1, order);
            Checks.feedAll(x, 255, b);
            CHECKS.due("255 and " + b, b < 128 ? 255 : BitRows.MARK, x.get(8));
            CHECKS.due("bits read of 255 and " + b, b < 128 ? 8 : 0, x.told(5));
            CHECKS.due("take of 255 and " + b, b < 128 ? BitRows.NONE : b, x.take());
            CHECKS.due("find of 255 and " + b, b < 128 ? BitRows.NONE : 0, x.find(0));
        }
        for (int b : new int[] {0, 127, 128, 254}) {
            BitRows x = new BitRows(1, order);
            Checks.feedAll(x, b, 200);
            CHECKS.due(b + " and 200", b, x.get(8));
            CHECKS.due("find of " + b + " and 200", BitRows.NONE, x.find(0));
        }
    }

    /** "At a byte it finds a MARK, only by bytes". */
    private static void marksOnlyByBytes(int order) {
        for (int stuffing : new int[] {0, 10, 16}) {
            BitRows x = new BitRows(stuffing, order);
            x.feed(255);
            CHECKS.due("255 alone, stuffing " + stuffing, 255, x.get(8));
            Checks.feedAll(x, 0, 255, 128, 0);
            x.get(8);
            CHECKS.due("255 and 128, stuffing " + stuffing, order == 0 ? 0xff80 : 0x80ff, x.get(16));
        }
    }

    /** "At a byte it finds a MARK": a pattern of bits that is not at one is none. */
    private static void marksAtAByteAlone(int order) {
        for (int before = 1; before <= 6; before++) {
            BitRows x = new BitRows(1, order);
            Checks.feedBits(x, "0".repeat(before) + "1".repeat(9) + "0".repeat(7 - before));
            CHECKS.due("bits before", 0, x.get(before));
            CHECKS.due("nine bits 1 behind " + before, 511, x.get(9));
            CHECKS.due("bits behind", 0, x.get(7 - before));
        }
        BitRows inside = new BitRows(1, order);
        Checks.feedAll(inside, 15, 255, 128);
        inside.get(7);
        CHECKS.due("the bit before a mark", order == 0 ? 1 : 0, inside.get(1));
        CHECKS.due("at the mark", BitRows.MARK, inside.get(1));
    }

    /** "(a 255 whose next byte did not come yet is not read, not in part either)". */
    private static void notReadInPart(int order) {
        for (int bits = 1; bits <= 8; bits++) {
            BitRows x = new BitRows(1, order);
            x.feed(255);
            CHECKS.due("get(" + bits + ") of 255 alone", BitRows.NONE, x.get(bits));
            CHECKS.due("skip of 255 alone", 0, x.skip());
            CHECKS.due("take of 255 alone", BitRows.NONE, x.take());
            CHECKS.due("nothing is read", 0, x.told(5));
            x.feed(127);
            CHECKS.due("get(" + bits + ") of 255 and 127", (1 << bits) - 1, x.get(bits));
        }
        BitRows behind = new BitRows(1, order);
        Checks.feedAll(behind, 6, 255);
        CHECKS.due("up to 255", order == 0 ? 0 : 6, behind.get(4));
        CHECKS.due("in part", BitRows.NONE, behind.get(5));
        CHECKS.due("bits before it", order == 0 ? 6 : 0, behind.get(4));
        BitRows full = Checks.filled(1, order, 4768);
        full.pass(0, 600);
        Checks.feedAll(full, 0, 0, 0, 255);
        for (int i = 0; i < 149; i++) {
            full.get(32);
        }
        CHECKS.due("bits before the last of 600", 0, full.get(24));
        CHECKS.due("a 255 that is the last of 600", BitRows.NONE, full.get(1));
        CHECKS.dueTold("a 255 that is the last of 600", full, 4768, 0, 600, 4792, 0, 0);
    }

    /** "Bits are READ only if all are there". */
    private static void onlyIfAllAreThere(int order) {
        for (int bytes = 0; bytes <= 4; bytes++) {
            for (int bits = 1; bits <= 32; bits++) {
                BitRows x = new BitRows(0, order);
                for (int i = 0; i < bytes; i++) {
                    x.feed(255);
                }
                boolean there = bits <= 8 * bytes;
                String what = "get(" + bits + ") of " + bytes + " bytes";
                CHECKS.due(what, there ? (1L << bits) - 1 : BitRows.NONE, x.get(bits));
                CHECKS.due(what + ": bits read", there ? bits : 0, x.told(5));
            }
        }
    }

    /** "behind one that is 255 (not by a mark)", when it is read. */
    private static void notStuffedBehindAMark(int order) {
        for (int code : new int[] {128, 254, 255}) {
            for (int b : new int[] {0, 127, 128, 254}) {
                BitRows x = new BitRows(1, order);
                Checks.feedAll(x, 255, code, b);
                CHECKS.due("take", code, x.take());
                CHECKS.due(b + " behind a mark of " + code, b, x.get(8));
                CHECKS.dueTold(b + " behind a mark of " + code, x, 0, 0, 3, 24, 0, 0);
            }
            BitRows full = new BitRows(1, order);
            Checks.feedAll(full, 255, code, 255, 127);
            full.take();
            CHECKS.due("255 behind a mark", 255, full.get(8));
            CHECKS.due("seven bits behind that", 127, full.get(7));
            CHECKS.dueTold("behind that", full, 0, 0, 4, 32, 1, 0);
        }
    }

    /** "A stuffed bit that is 1 makes it BAD". */
    private static void stuffedBitsOne(int order) {
        for (int n = 2; n <= 16; n++) {
            String run = "1".repeat(n);
            BitRows x = new BitRows(n, order);
            Checks.feedBits(x, run + "1");
            CHECKS.due("a run before it, " + n, (1 << n - 1) - 1, x.get(n - 1));
            CHECKS.due("not BAD yet", 0, x.told(7));
            CHECKS.due("BAD, " + n, BitRows.BAD, x.get(1));
            CHECKS.dueTold("BAD, " + n, x, 0, 0, n < 8 ? 1 : n < 16 ? 2 : 3, n - 1, 0, 1);
            BitRows good = new BitRows(n, order);
            Checks.feedBits(good, run + "0" + run + "0");
            CHECKS.due("not BAD, " + n, (1L << 2 * n) - 1, good.get(2 * n));
            CHECKS.due("stuffed ones, " + n, 2, good.told(6));
            BitRows second = new BitRows(n, order);
            Checks.feedBits(second, run + "0" + run + "1");
            CHECKS.due("the first run, " + n, (1 << n) - 1, second.get(n));
            CHECKS.due("the second stuffed bit, " + n, BitRows.BAD, second.get(n));
        }
    }

    /** "BAD, for good": whatever comes, whatever is called, but for clear. */
    private static void badForGood(int order) {
        BitRows x = new BitRows(2, order);
        x.put(32, 0);
        Checks.feedBits(x, "0111");
        x.get(1);
        CHECKS.due("BAD", BitRows.BAD, x.get(2));
        x.feed(0);
        x.pass(0, 4);
        CHECKS.due("get(1) is BAD", BitRows.BAD, x.get(1));
        CHECKS.due("get(32) is BAD", BitRows.BAD, x.get(32));
        CHECKS.due("skip", 0, x.skip());
        CHECKS.due("take", BitRows.NONE, x.take());
        CHECKS.refused("get(33)", IllegalArgumentException.class, x, () -> x.get(33));
        CHECKS.due("find goes on", BitRows.NONE, x.find(0));
        CHECKS.due("put goes on", 32, x.put(3, 7));
        CHECKS.due("align goes on", 4, x.align());
        CHECKS.dueTold("BAD for good", x, 40, 1, 6, 1, 0, 1);
        CHECKS.due("still BAD", BitRows.BAD, x.get(1));
        x.clear();
        CHECKS.dueTold("clear", x, 0, 0, 0, 0, 0, 0);
        CHECKS.due("nothing came", BitRows.NONE, x.get(1));
    }

    /** "it is read with the bit before it". */
    private static void withTheBitBeforeIt(int order) {
        for (int n = 2; n <= 16; n++) {
            BitRows x = new BitRows(n, order);
            Checks.feedBits(x, "1".repeat(n) + "01");
            x.get(n - 1);
            CHECKS.due("bits before it, " + n, n - 1, x.told(5));
            CHECKS.due("the last bit of the run, " + n, 1, x.get(1));
            CHECKS.due("bits with it, " + n, n + 1, x.told(5));
            CHECKS.due("one stuffed, " + n, 1, x.told(6));
            CHECKS.due("the bit behind it, " + n, 1, x.get(1));
        }
    }

    /** "the bit before it, which is there only together with it". */
    private static void thereOnlyTogether(int order) {
        for (int n = 2; n <= 16; n++) {
            String zeros = "0".repeat(16 - n);
            for (int next = 0; next < 2; next++) {
                BitRows x = new BitRows(n, order);
                Checks.feedBits(x, zeros + "1".repeat(n));
                String what = "a run of " + n + " at the end";
                CHECKS.due(what + ", as one field", BitRows.NONE, x.get(16));
                CHECKS.due(what + ", without its last bit", order == 0 ? (1 << n - 1) - 1
                        : (1 << n - 1) - 1 << 16 - n, x.get(15));
                CHECKS.due(what + ", its last bit", BitRows.NONE, x.get(1));
                CHECKS.dueTold(what, x, 0, 0, 2, 15, 0, 0);
                Checks.feedBits(x, "" + next);
                CHECKS.due(what + ", then " + next, next == 0 ? 1 : BitRows.BAD, x.get(1));
                CHECKS.dueTold(what + ", then " + next, x, 0, 0, 3, next == 0 ? 17 : 15, 1 - next, next);
            }
        }
    }

    /** "(by bytes, high first: with the one behind it)". */
    private static void stuffedByBytesHighFirst() {
        BitRows x = new BitRows(1, 0);
        Checks.feedAll(x, 255, 0x40);
        x.get(8);
        CHECKS.dueTold("255 without it", x, 0, 0, 2, 8, 0, 0);
        CHECKS.due("the bit behind it", 1, x.get(1));
        CHECKS.dueTold("with the bit behind it", x, 0, 0, 2, 10, 1, 0);
        CHECKS.due("a bit too many", BitRows.NONE, x.get(7));
        CHECKS.due("the rest", 0, x.get(6));
        BitRows over = new BitRows(1, 0);
        Checks.feedAll(over, 255, 0x7f);
        CHECKS.due("one field over it", 0x7fff, over.get(15));
        CHECKS.dueTold("one field over it", over, 0, 0, 2, 16, 1, 0);
    }

    /** "it is read with the bit before it": by bytes, low first. */
    private static void stuffedByBytesLowFirst() {
        BitRows x = new BitRows(1, 1);
        Checks.feedAll(x, 255, 0x40);
        x.get(8);
        CHECKS.due("six bits behind 255", 0, x.get(6));
        CHECKS.dueTold("six bits behind 255", x, 0, 0, 2, 14, 0, 0);
        CHECKS.due("two bits more", BitRows.NONE, x.get(2));
        CHECKS.due("the bit before it", 1, x.get(1));
        CHECKS.dueTold("with the bit before it", x, 0, 0, 2, 16, 1, 0);
    }

    /** "of 16 bits: at first 65535; each byte, from its highest bit: ...". */
    private static void sumsOf16() {
        CHECKS.due("sum of nothing", 65535, new BitRows(0, 0).sum(true, 16, 0, 0));
        for (int b = 0; b < 256; b++) {
            BitRows x = new BitRows(0, 0);
            x.feed(b);
            int sum = 65535;
            for (int k = 7; k >= 0; k--) {
                int out = sum >> 15;
                sum = sum << 1 & 65535;
                sum = out == (b >> k & 1) ? sum : sum ^ 4129;
            }
            CHECKS.due("sum of " + b, sum, x.sum(true, 16, 0, 1));
        }
        BitRows known = new BitRows(0, 0);
        Checks.feedAll(known, 0, 255);
        CHECKS.due("sum of 0", 0xe1f0, known.sum(true, 16, 0, 1));
        CHECKS.due("sum of 255", 0xff00, known.sum(true, 16, 1, 2));
    }

    /** "Of 32 bits: at first all 1; each byte, from its lowest bit: ...; at last ... the other way round". */
    private static void sumsOf32() {
        CHECKS.due("sum of nothing", 0, new BitRows(0, 0).sum(true, 32, 0, 0));
        for (int b = 0; b < 256; b++) {
            BitRows x = new BitRows(0, 0);
            x.feed(b);
            java.util.zip.CRC32 crc = new java.util.zip.CRC32();
            crc.update(b);
            CHECKS.due("sum of " + b, (int) crc.getValue(), x.sum(true, 32, 0, 1));
        }
        BitRows known = new BitRows(0, 0);
        Checks.feedAll(known, 0, 255);
        CHECKS.due("sum of 0", 0xd202ef8d, known.sum(true, 32, 0, 1));
        CHECKS.due("sum of 255", 0xff000000, known.sum(true, 32, 1, 2));
    }
}
