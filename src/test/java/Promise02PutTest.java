public final class Promise02PutTest {
    private static final Checks CHECKS = new Checks();

    public static void main(String[] args) {
        withoutStuffing();
        byBytesHighFirst();
        byBytesLowFirst();
        byRuns();
        refusals();
        upToTheLimit();
        stuffedBitsCountInTheLimit();
        CHECKS.end();
    }

    private static void withoutStuffing() {
        BitRows high = new BitRows(0, 0);
        CHECKS.due("put(3, 5)", 0, high.put(3, 5));
        CHECKS.due("put(5, 19)", 3, high.put(5, 19));
        CHECKS.due("put(32, 0x12345678)", 8, high.put(32, 0x12345678));
        CHECKS.due("put(4, 0xff5)", 40, high.put(4, 0xff5));
        CHECKS.dueBytes("high first", high, 0xb3, 0x12, 0x34, 0x56, 0x78, 0x50);
        BitRows low = new BitRows(0, 1);
        CHECKS.due("put(3, 5)", 0, low.put(3, 5));
        CHECKS.due("put(5, 19)", 3, low.put(5, 19));
        CHECKS.due("put(32, 0x12345678)", 8, low.put(32, 0x12345678));
        CHECKS.due("put(4, 0xff5)", 40, low.put(4, 0xff5));
        CHECKS.dueBytes("low first", low, 157, 0x78, 0x56, 0x34, 0x12, 0x05);
        BitRows one = new BitRows(0, 0);
        CHECKS.due("put(1, -2)", 0, one.put(1, -2));
        CHECKS.due("put(1, MIN + 1)", 1, one.put(1, Integer.MIN_VALUE + 1));
        CHECKS.dueBytes("one bit", one, 0x40);
    }

    private static void byBytesHighFirst() {
        BitRows x = new BitRows(1, 0);
        x.put(8, 255);
        CHECKS.dueTold("the stuffed bit waits", x, 8, 0);
        CHECKS.due("put(1, 1) behind 255", 9, x.put(1, 1));
        CHECKS.dueTold("the stuffed bit came", x, 10, 1);
        CHECKS.dueBytes("behind 255", x, 255, 0x40);
        x.put(6, -1);
        x.put(8, 255);
        CHECKS.dueBytes("behind 127 nothing is stuffed", x, 255, 127, 255);
        BitRows inside = new BitRows(1, 0);
        CHECKS.due("put(16, -1)", 0, inside.put(16, -1));
        CHECKS.dueTold("a field over it", inside, 17, 1);
        CHECKS.dueBytes("a field over it", inside, 255, 127, 128);
    }

    private static void byBytesLowFirst() {
        BitRows x = new BitRows(1, 1);
        x.put(8, 255);
        CHECKS.due("put(6, 63) behind 255", 8, x.put(6, 63));
        CHECKS.dueTold("six bits behind 255", x, 14, 0);
        CHECKS.due("put(1, 1)", 14, x.put(1, 1));
        CHECKS.dueTold("the stuffed bit came at once", x, 16, 1);
        CHECKS.due("put(1, 1)", 16, x.put(1, 1));
        CHECKS.dueBytes("low first", x, 255, 127, 1);
    }

    private static void byRuns() {
        BitRows x = new BitRows(3, 0);
        CHECKS.due("put(2, 3)", 0, x.put(2, 3));
        CHECKS.dueTold("two bits 1", x, 2, 0);
        CHECKS.due("put(1, 1)", 2, x.put(1, 1));
        CHECKS.dueTold("stuffed at once", x, 4, 1);
        CHECKS.due("put(8, 255)", 4, x.put(8, 255));
        CHECKS.dueTold("counted anew, over bytes", x, 14, 3);
        CHECKS.dueBytes("by runs", x, 0xee, 0xec);
        BitRows broken = new BitRows(2, 0);
        broken.put(8, 0xaa);
        CHECKS.dueTold("single bits 1", broken, 8, 0);
        broken.put(1, 1);
        broken.put(1, 1);
        CHECKS.dueTold("a run of two fields", broken, 11, 1);
        BitRows low = new BitRows(2, 1);
        low.put(4, 6);
        CHECKS.dueTold("low first by runs", low, 5, 1);
        CHECKS.dueBytes("low first by runs", low, 6);
        BitRows longest = new BitRows(16, 0);
        longest.put(32, -1);
        CHECKS.dueTold("runs of 16", longest, 34, 2);
        CHECKS.dueBytes("runs of 16", longest, 255, 255, 127, 255, 0x80);
    }

    private static void refusals() {
        for (int bits : new int[] {Integer.MIN_VALUE, -1, 0, 33, Integer.MAX_VALUE}) {
            BitRows x = new BitRows(1, 0);
            x.put(8, 255);
            CHECKS.refused("put(" + bits + ", 1)", IllegalArgumentException.class, x, () -> x.put(bits, 1));
        }
    }

    private static void upToTheLimit() {
        BitRows x = new BitRows(0, 0);
        Checks.fillTo(x, 4736);
        CHECKS.refused("put(32) at 4736", UnsupportedOperationException.class, x, () -> x.put(32, 1));
        CHECKS.refused("put(25) at 4736", UnsupportedOperationException.class, x, () -> x.put(25, 1));
        CHECKS.due("put(24) at 4736", 4736, x.put(24, 1));
        Checks.fillTo(x, 4782);
        CHECKS.refused("put(2) at 4782", UnsupportedOperationException.class, x, () -> x.put(2, 1));
        CHECKS.due("put(1) at 4782", 4782, x.put(1, 1));
        CHECKS.refused("put(1) at 4783", UnsupportedOperationException.class, x, () -> x.put(1, 1));
        CHECKS.refused("put(0) at 4783", IllegalArgumentException.class, x, () -> x.put(0, 1));
        CHECKS.refused("put(33) at 4783", IllegalArgumentException.class, x, () -> x.put(33, 1));
    }

    private static void stuffedBitsCountInTheLimit() {
        BitRows x = new BitRows(2, 1);
        for (int i = 0; i < 98; i++) {
            CHECKS.due("put(32, -1)", 48 * i, x.put(32, -1));
        }
        CHECKS.due("put(16, -1) at 4704", 4704, x.put(16, -1));
        CHECKS.refused("put(29) at 4728", UnsupportedOperationException.class, x, () -> x.put(29, -1));
        CHECKS.due("put(28, -1) at 4728", 4728, x.put(28, -1));
        CHECKS.dueTold("by runs of two", x, 4770, 1590);
        BitRows bytes = new BitRows(1, 0);
        for (int i = 0; i < 134; i++) {
            bytes.put(32, -1);
        }
        CHECKS.dueTold("134 full fields by bytes", bytes, 4574, 286);
    }
}
