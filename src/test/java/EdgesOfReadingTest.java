/** The boundary cases of promises 7 to 12: each sentence that names one has a test that quotes it. */
public final class EdgesOfReadingTest {
    private static final Checks CHECKS = new Checks();
    private static final Class<IndexOutOfBoundsException> INDEX = IndexOutOfBoundsException.class;
    private static final Class<IllegalArgumentException> ARGUMENT = IllegalArgumentException.class;
    private static final Class<UnsupportedOperationException> OPERATION = UnsupportedOperationException.class;

    /** Numbers that eight times themselves, or a bit more than themselves, wrap around. */
    private static final int[] FAR = {Integer.MIN_VALUE, Integer.MIN_VALUE + 1, -0x20000000, -1,
        0x10000000, 0x20000000, Integer.MAX_VALUE - 600, Integer.MAX_VALUE - 1, Integer.MAX_VALUE};

    public static void main(String[] args) {
        bytesThatMayCome();
        howManyCame();
        for (int order = 0; order < 2; order++) {
            wholeBytes(order);
            asManyAsThereAre(order);
            fewerThanNone(order);
            passUpTo600(order);
            widthsOfGet(order);
            aNumberThatHas64Bits(order);
            aMarkBefore(order);
            metFirst(order);
            nothingIsReadThen(order);
            onToAligned(order);
            onToAlignedByBytes(order);
            stuffedOnesAreNotLookedAt(order);
            countedAnewIfItWentOn(order);
            skipIfBad(order);
            atAWholeByte(order);
            noneOrNotYet(order);
            takenIsRead(order);
            firstNotBefore(order);
            upToHowManyCame(order);
            findInFullRows(order);
        }
        CHECKS.end();
    }

    /** Promise 7: "A byte comes": 0 .. 255, and no other number. */
    private static void bytesThatMayCome() {
        for (int b : new int[] {0, 1, 127, 128, 254, 255}) {
            BitRows x = new BitRows(0, 0);
            CHECKS.due("feed(" + b + ")", 1, x.feed(b));
            CHECKS.due("fed " + b, b, x.get(8));
        }
        BitRows x = new BitRows(0, 0);
        x.feed(7);
        for (int b : new int[] {-256, -128, -2, -1, 256, 257, 511, 512}) {
            CHECKS.refused("feed(" + b + ")", ARGUMENT, x, () -> x.feed(b));
        }
        for (int b : FAR) {
            CHECKS.refused("feed(" + b + ")", ARGUMENT, x, () -> x.feed(b));
        }
    }

    /** Promise 7: "how many came", up to 600; and the first exception of two. */
    private static void howManyCame() {
        BitRows x = Checks.filled(0, 0, 4720);
        x.pass(0, 590);
        for (int many = 591; many <= 600; many++) {
            CHECKS.due("feed", many, x.feed(255));
        }
        CHECKS.refused("feed(0)", OPERATION, x, () -> x.feed(0));
        CHECKS.refused("feed(255)", OPERATION, x, () -> x.feed(255));
        CHECKS.refused("feed(-1)", ARGUMENT, x, () -> x.feed(-1));
        CHECKS.refused("feed(256)", ARGUMENT, x, () -> x.feed(256));
        x.clear();
        CHECKS.due("feed behind clear", 1, x.feed(0));
    }

    /** Promise 8: "IndexOutOfBounds: that is no whole one". */
    private static void wholeBytes(int order) {
        for (int bits = 0; bits <= 24; bits++) {
            int whole = bits / 8;
            BitRows x = Checks.filled(0, order, bits);
            for (int n : new int[] {Integer.MIN_VALUE, -1, 0, 1, Integer.MAX_VALUE}) {
                CHECKS.refused("pass(" + whole + ", " + n + ") of " + bits, INDEX, x, () -> x.pass(whole, n));
                CHECKS.refused("pass(-1, " + n + ") of " + bits, INDEX, x, () -> x.pass(-1, n));
            }
            for (int i = 0; i < whole; i++) {
                CHECKS.due("pass(" + i + ", 1) of " + bits, 1, x.pass(i, 1));
            }
        }
        BitRows x = Checks.filled(0, order, 4783);
        for (int i : FAR) {
            CHECKS.refused("pass(" + i + ", 1)", INDEX, x, () -> x.pass(i, 1));
        }
        CHECKS.refused("pass(597, 0)", INDEX, x, () -> x.pass(597, 0));
        CHECKS.due("pass(596, 1)", 1, x.pass(596, 1));
        BitRows waiting = new BitRows(1, order);
        waiting.put(8, 255);
        CHECKS.due("a whole byte that is not aligned", 1, waiting.pass(0, 2));
    }

    /** Promise 8: "from byte i on, n or as many as there are: how many". */
    private static void asManyAsThereAre(int order) {
        for (int i = 0; i < 4; i++) {
            for (int n : new int[] {0, 1, 2, 3, 4, 5, 600, 0x7fffffff - i, Integer.MAX_VALUE - 1}) {
                BitRows x = new BitRows(0, order);
                x.put(32, order == 0 ? 0x0a0b0c0d : 0x0d0c0b0a);
                x.put(7, 127);
                int many = Math.min(n, 4 - i);
                CHECKS.due("pass(" + i + ", " + n + ")", many, x.pass(i, n));
                CHECKS.due("told(4)", many, x.told(4));
                for (int k = 0; k < many; k++) {
                    CHECKS.due("byte " + k + " of pass(" + i + ", " + n + ")", 10 + i + k, x.get(8));
                }
                CHECKS.due("no more", BitRows.NONE, x.get(1));
            }
        }
    }

    /** Promise 8: "IllegalArgument: n is below 0". */
    private static void fewerThanNone(int order) {
        BitRows x = Checks.filled(0, order, 16);
        CHECKS.due("pass(1, 0)", 0, x.pass(1, 0));
        for (int n : new int[] {-1, -2, -600, -0x20000000, Integer.MIN_VALUE + 1, Integer.MIN_VALUE}) {
            CHECKS.refused("pass(0, " + n + ")", ARGUMENT, x, () -> x.pass(0, n));
            CHECKS.refused("pass(1, " + n + ")", ARGUMENT, x, () -> x.pass(1, n));
        }
    }

    /** Promise 8: "600 at most" come; of several exceptions the first one. */
    private static void passUpTo600(int order) {
        BitRows x = Checks.filled(0, order, 2408);
        CHECKS.due("pass(0, MAX)", 301, x.pass(0, Integer.MAX_VALUE));
        CHECKS.refused("pass(0, MAX)", OPERATION, x, () -> x.pass(0, Integer.MAX_VALUE));
        CHECKS.refused("pass(0, 300)", OPERATION, x, () -> x.pass(0, 300));
        CHECKS.refused("pass(1, 301)", OPERATION, x, () -> x.pass(1, 301));
        CHECKS.due("pass(2, MAX)", 299, x.pass(2, Integer.MAX_VALUE));
        CHECKS.due("600 came", 600, x.told(4));
        CHECKS.due("pass(300, 0)", 0, x.pass(300, 0));
        CHECKS.refused("pass(300, 1)", OPERATION, x, () -> x.pass(300, 1));
        CHECKS.refused("pass(300, -1)", ARGUMENT, x, () -> x.pass(300, -1));
        CHECKS.refused("pass(301, 1)", INDEX, x, () -> x.pass(301, 1));
        CHECKS.refused("pass(301, -1)", INDEX, x, () -> x.pass(301, -1));
    }

    /** Promise 9: "a field of 1 .. 32 bits". */
    private static void widthsOfGet(int order) {
        for (int stuffing : new int[] {0, 1, 2, 16}) {
            BitRows x = new BitRows(stuffing, order);
            Checks.feedAll(x, 0, 0, 0, 0, 0, 255, 255);
            BitRows empty = new BitRows(stuffing, order);
            for (int bits : new int[] {Integer.MIN_VALUE, -0x20000000, -1, 0, 33, 0x20000001,
                Integer.MAX_VALUE}) {
                CHECKS.refused("get(" + bits + ")", ARGUMENT, x, () -> x.get(bits));
                CHECKS.refused("get(" + bits + ") of nothing", ARGUMENT, empty, () -> empty.get(bits));
            }
            CHECKS.due("get(1)", 0, x.get(1));
            CHECKS.due("get(32)", 0, x.get(32));
        }
    }

    /** Promise 9: "as 32 bits of a number that has 64". */
    private static void aNumberThatHas64Bits(int order) {
        BitRows x = new BitRows(0, order);
        for (int i = 0; i < 12; i++) {
            x.feed(255);
        }
        CHECKS.due("32 bits 1", 4294967295L, x.get(32));
        CHECKS.due("31 bits 1", 2147483647L, x.get(31));
        BitRows highest = new BitRows(0, order);
        highest.put(32, Integer.MIN_VALUE);
        highest.put(32, -2);
        highest.pass(0, 8);
        CHECKS.due("the highest of 32", 2147483648L, highest.get(32));
        CHECKS.due("all but the lowest", 4294967294L, highest.get(32));
    }

    /** Promise 9: "NONE if they are not all there, MARK if there is a mark before". */
    private static void aMarkBefore(int order) {
        for (int bits = 1; bits <= 32; bits++) {
            BitRows x = new BitRows(1, order);
            Checks.feedAll(x, 0, 0, 255, 128, 0, 0, 0, 0);
            CHECKS.due("get(" + bits + ") before a mark", bits <= 16 ? 0 : BitRows.MARK, x.get(bits));
            BitRows at = new BitRows(1, order);
            Checks.feedAll(at, 255, 128);
            CHECKS.due("get(" + bits + ") at a mark", BitRows.MARK, at.get(bits));
            at.take();
            CHECKS.due("get(" + bits + ") behind it", BitRows.NONE, at.get(bits));
        }
    }

    /** Promise 9: "of several that which is met first". */
    private static void metFirst(int order) {
        BitRows end = new BitRows(1, order);
        Checks.feedAll(end, 1, 255);
        CHECKS.due("the end before a mark", BitRows.NONE, end.get(32));
        end.feed(255);
        CHECKS.due("a mark before the end", BitRows.MARK, end.get(32));
        BitRows bad = new BitRows(3, order);
        Checks.feedBits(bad, "00001111");
        CHECKS.due("BAD before the end", BitRows.BAD, bad.get(9));
        BitRows none = new BitRows(4, order);
        Checks.feedBits(none, "00001111");
        CHECKS.due("the end before a stuffed bit", BitRows.NONE, none.get(9));
        CHECKS.due("not BAD", 0, none.told(7));
        Checks.feedBits(none, "1");
        CHECKS.due("a stuffed bit behind the field", 0, none.get(4));
        CHECKS.due("its run, but for a bit", 7, none.get(3));
        CHECKS.due("a stuffed bit with the field", BitRows.BAD, none.get(1));
        BitRows twoBad = new BitRows(2, order);
        Checks.feedBits(twoBad, "11100000");
        CHECKS.due("BAD before all that is behind", BitRows.BAD, twoBad.get(32));
    }

    /** Promise 9: "Nothing is read then": neither bits nor runs of them. */
    private static void nothingIsReadThen(int order) {
        BitRows mark = new BitRows(1, order);
        Checks.feedAll(mark, 255, 3, 255, 128);
        mark.get(3);
        CHECKS.due("get(13) before a mark", BitRows.MARK, mark.get(13));
        CHECKS.dueTold("get(13) before a mark", mark, 0, 0, 4, 3, 0, 0);
        CHECKS.due("get(12) before a mark", order == 0 ? 31 << 7 | 3 : 31 | 3 << 5, mark.get(12));
        CHECKS.dueTold("get(12) before a mark", mark, 0, 0, 4, 16, 1, 0);
        BitRows none = new BitRows(3, order);
        Checks.feedBits(none, "11011011");
        none.get(1);
        CHECKS.due("get(8) of 7", BitRows.NONE, none.get(8));
        CHECKS.dueTold("get(8) of 7", none, 0, 0, 1, 1, 0, 0);
        CHECKS.due("the second bit of a run", 1, none.get(1));
        Checks.feedBits(none, "10000000");
        CHECKS.due("the rest, with a run of three", order == 0 ? 0x1b << 1 | 1 : 0x36 | 1 << 6, none.get(7));
        CHECKS.dueTold("the rest", none, 0, 0, 2, 10, 1, 0);
        BitRows bad = new BitRows(2, order);
        Checks.feedBits(bad, "01101110");
        CHECKS.due("get(5)", BitRows.BAD, bad.get(5));
        CHECKS.dueTold("get(5)", bad, 0, 0, 1, 0, 0, 1);
    }

    /** Promise 10: "On to where the bits read are aligned: how many bits were passed over". */
    private static void onToAligned(int order) {
        for (int stuffing : new int[] {0, 1, 2, 16}) {
            for (int bits = 0; bits <= 16; bits++) {
                BitRows x = new BitRows(stuffing, order);
                Checks.feedAll(x, 0, 0);
                if (bits > 0) {
                    x.get(bits);
                }
                String what = "skip behind " + bits + ", stuffing " + stuffing;
                CHECKS.due(what, (16 - bits) % 8, x.skip());
                CHECKS.dueTold(what, x, 0, 0, 2, (bits + 7) / 8 * 8, 0, 0);
                CHECKS.due("skip again", 0, x.skip());
            }
        }
    }

    /** Promise 10: "aligned", by bytes: not behind 255, "without stuffed ones". */
    private static void onToAlignedByBytes(int order) {
        for (int bits = 1; bits <= 15; bits++) {
            BitRows x = new BitRows(1, order);
            Checks.feedAll(x, 255, 127, 254, 0);
            x.get(bits);
            String what = "skip behind " + bits + " bits of 255 and 127";
            CHECKS.due(what, 15 - bits, x.skip());
            CHECKS.dueTold(what, x, 0, 0, 4, 16, 1, 0);
            x.get(1);
            CHECKS.due("skip in 254", 7, x.skip());
        }
        BitRows marked = new BitRows(1, order);
        Checks.feedAll(marked, 255, 255, 200);
        marked.take();
        CHECKS.due("skip behind 255 by a mark", 0, marked.skip());
        CHECKS.due("bits read", 16, marked.told(5));
        BitRows before = new BitRows(1, order);
        Checks.feedAll(before, 0, 255, 128);
        before.get(1);
        CHECKS.due("skip up to a mark", 7, before.skip());
        CHECKS.due("the mark", 128, before.take());
    }

    /** Promise 10: "without stuffed ones (which are not looked at)". */
    private static void stuffedOnesAreNotLookedAt(int order) {
        for (int stuffed = 0; stuffed < 2; stuffed++) {
            BitRows x = new BitRows(3, order);
            Checks.feedBits(x, "0111" + stuffed + "111 01000000");
            x.get(1);
            CHECKS.due("skip over a stuffed " + stuffed, 6, x.skip());
            CHECKS.dueTold("skip over a stuffed " + stuffed, x, 0, 0, 2, 8, 1, 0);
            CHECKS.due("bits behind it", order == 0 ? 1 : 2, x.get(2));
        }
        BitRows last = new BitRows(3, order);
        Checks.feedBits(last, "00001111");
        last.get(1);
        CHECKS.due("a stuffed bit that ends the byte", 6, last.skip());
        CHECKS.dueTold("a stuffed bit that ends the byte", last, 0, 0, 1, 8, 1, 0);
        BitRows begun = new BitRows(3, order);
        Checks.feedBits(begun, "11100000");
        begun.get(2);
        CHECKS.due("a run that was begun before", 5, begun.skip());
        CHECKS.due("its stuffed bit", 1, begun.told(6));
    }

    /** Promise 10: "By runs bits 1 are counted anew behind it, if it went on". */
    private static void countedAnewIfItWentOn(int order) {
        for (int n = 2; n <= 9; n++) {
            BitRows went = new BitRows(n, order);
            Checks.feedBits(went, "0".repeat(9 - n) + "1".repeat(n - 1) + "1".repeat(n) + "01");
            went.get(7);
            CHECKS.due("skip of a bit", 1, went.skip());
            CHECKS.due("counted anew, runs of " + n, (1 << n) - 1, went.get(n));
            CHECKS.due("one stuffed, runs of " + n, 1, went.told(6));
            CHECKS.due("the bit behind it", 1, went.get(1));
            BitRows stays = new BitRows(n, order);
            Checks.feedBits(stays, "0".repeat(9 - n) + "1".repeat(n - 1) + "101");
            stays.get(8);
            CHECKS.due("skip of none", 0, stays.skip());
            CHECKS.due("counted on, runs of " + n, 1, stays.get(1));
            CHECKS.due("one stuffed, runs of " + n, 1, stays.told(6));
            CHECKS.due("the bit behind it", 1, stays.get(1));
        }
        for (int n = 2; n <= 7; n++) {
            BitRows ends = new BitRows(n, order);
            Checks.feedBits(ends, "0".repeat(8 - n) + "1".repeat(n) + "10000000");
            ends.get(1);
            CHECKS.due("skip over a run of " + n + " that ends the byte", 7, ends.skip());
            CHECKS.due("nothing is stuffed behind it", order == 0 ? 128 : 1, ends.get(8));
            CHECKS.dueTold("nothing is stuffed behind it", ends, 0, 0, 2, 16, 0, 0);
        }
    }

    /** Promise 10: "0 if it is BAD". */
    private static void skipIfBad(int order) {
        BitRows x = new BitRows(2, order);
        Checks.feedBits(x, "00011100");
        x.get(3);
        CHECKS.due("BAD", BitRows.BAD, x.get(2));
        CHECKS.due("skip", 0, x.skip());
        CHECKS.dueTold("skip", x, 0, 0, 1, 3, 0, 1);
    }

    /** Promise 11: "a mark that is met next, at a whole byte". */
    private static void atAWholeByte(int order) {
        for (int bits = 0; bits <= 8; bits++) {
            BitRows x = new BitRows(1, order);
            Checks.feedAll(x, 0, 255, 128);
            if (bits > 0) {
                x.get(bits);
            }
            CHECKS.due("take behind " + bits, bits == 8 ? 128 : BitRows.NONE, x.take());
            CHECKS.due("bits read", bits == 8 ? 24 : bits, x.told(5));
        }
        BitRows behind = new BitRows(1, order);
        Checks.feedAll(behind, 255, 127, 255, 255);
        behind.get(8);
        CHECKS.due("behind 255 that is no mark", BitRows.NONE, behind.take());
        CHECKS.due("its last bits", 127, behind.get(7));
        CHECKS.due("behind that", 255, behind.take());
    }

    /** Promise 11: "NONE if there is none (or not yet), or it is BAD". */
    private static void noneOrNotYet(int order) {
        BitRows x = new BitRows(1, order);
        CHECKS.due("nothing came", BitRows.NONE, x.take());
        x.feed(255);
        CHECKS.due("not yet", BitRows.NONE, x.take());
        x.feed(128);
        CHECKS.due("now", 128, x.take());
        CHECKS.due("no more", BitRows.NONE, x.take());
        BitRows none = new BitRows(1, order);
        Checks.feedAll(none, 255, 127);
        CHECKS.due("no mark", BitRows.NONE, none.take());
        for (int stuffing = 0; stuffing <= 16; stuffing++) {
            if (stuffing != 1) {
                BitRows other = new BitRows(stuffing, order);
                Checks.feedAll(other, 255, 128);
                CHECKS.due("not by bytes, stuffing " + stuffing, BitRows.NONE, other.take());
                CHECKS.due("bits read", 0, other.told(5));
            }
        }
        BitRows bad = new BitRows(2, order);
        Checks.feedAll(bad, 255, 255);
        CHECKS.due("BAD", BitRows.BAD, bad.get(2));
        CHECKS.due("take if it is BAD", BitRows.NONE, bad.take());
    }

    /** Promise 11: "it is read", in a full row too. */
    private static void takenIsRead(int order) {
        BitRows x = new BitRows(1, order);
        for (int i = 0; i < 148; i++) {
            x.mark(128 + i % 128);
        }
        x.pass(0, 296);
        x.pass(0, 296);
        x.pass(0, 8);
        for (int i = 0; i < 300; i++) {
            int k = i < 296 ? i % 148 : i - 296;
            CHECKS.due("mark " + i, 128 + k % 128, x.take());
        }
        CHECKS.due("behind the last", BitRows.NONE, x.take());
        CHECKS.dueTold("marks", x, 2368, 0, 600, 4800, 0, 0);
    }

    /** Promise 12: "the first one not before a given one ... where a mark stands (by bytes or not)". */
    private static void firstNotBefore(int order) {
        for (int stuffing : new int[] {0, 1, 2, 16}) {
            BitRows x = new BitRows(stuffing, order);
            Checks.feedAll(x, 0, 255, 128, 255, 127, 255, 255, 0);
            int[] due = {1, 1, 5, 5, 5, 5, BitRows.NONE, BitRows.NONE, BitRows.NONE};
            for (int from = 0; from <= 8; from++) {
                CHECKS.due("find(" + from + "), stuffing " + stuffing, due[from], x.find(from));
            }
            CHECKS.due("nothing is read", 0, x.told(5));
        }
    }

    /** Promise 12: "a given one (0, or up to how many came)". */
    private static void upToHowManyCame(int order) {
        for (int many = 0; many <= 3; many++) {
            int behind = many + 1;
            BitRows x = new BitRows(1, order);
            x.put(32, 0);
            for (int i = 0; i < many; i++) {
                x.feed(255);
            }
            CHECKS.due("find(0) of " + many, many < 2 ? BitRows.NONE : 0, x.find(0));
            CHECKS.due("find at the end of " + many, BitRows.NONE, x.find(many));
            CHECKS.refused("find behind " + many, INDEX, x, () -> x.find(behind));
            for (int far : FAR) {
                CHECKS.refused("find(" + far + ") of " + many, INDEX, x, () -> x.find(far));
            }
        }
    }

    /** Promise 12 when 600 bytes came: a mark at their end, and a 255 that is the last one. */
    private static void findInFullRows(int order) {
        BitRows x = Checks.filled(0, order, 4752);
        x.pass(0, 594);
        Checks.feedAll(x, 255, 0, 0, 0, 255);
        CHECKS.due("its code did not come yet", BitRows.NONE, x.find(0));
        x.feed(128);
        CHECKS.due("find(0)", 598, x.find(0));
        CHECKS.due("find(598)", 598, x.find(598));
        CHECKS.due("find(599)", BitRows.NONE, x.find(599));
        CHECKS.due("find(600)", BitRows.NONE, x.find(600));
        CHECKS.refused("find(601)", INDEX, x, () -> x.find(601));
        BitRows last = Checks.filled(0, order, 4752);
        last.pass(0, 594);
        Checks.feedAll(last, 0, 0, 0, 0, 0, 255);
        CHECKS.due("a last 255", BitRows.NONE, last.find(0));
        CHECKS.due("a last 255", BitRows.NONE, last.find(599));
    }
}
