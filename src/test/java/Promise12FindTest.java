public final class Promise12FindTest {
    private static final Checks CHECKS = new Checks();

    public static void main(String[] args) {
        for (int stuffing : new int[] {0, 1, 2, 16}) {
            finding(stuffing);
        }
        writtenBytesDoNotCount();
        CHECKS.end();
    }

    private static void finding(int stuffing) {
        BitRows x = new BitRows(stuffing, stuffing & 1);
        CHECKS.due("find(0) of nothing", BitRows.NONE, x.find(0));
        CHECKS.refused("find(1) of nothing", IndexOutOfBoundsException.class, x, () -> x.find(1));
        Checks.feedAll(x, 7, 255, 127, 255, 128, 0, 255, 255, 255);
        int[] due = {3, 3, 3, 3, 6, 6, 6, 7, BitRows.NONE, BitRows.NONE};
        for (int from = 0; from < due.length; from++) {
            CHECKS.due("find(" + from + ")", due[from], x.find(from));
        }
        for (int from : new int[] {-1, 10, Integer.MIN_VALUE, Integer.MAX_VALUE}) {
            CHECKS.refused("find(" + from + ")", IndexOutOfBoundsException.class, x, () -> x.find(from));
        }
        x.feed(200);
        CHECKS.due("find(8) when its code came", 8, x.find(8));
        CHECKS.due("nothing is read", 0, x.told(5));
        x.get(8);
        x.skip();
        CHECKS.due("find before what is read", 3, x.find(0));
    }

    private static void writtenBytesDoNotCount() {
        BitRows x = new BitRows(1, 0);
        x.mark(128);
        CHECKS.due("find of a mark that was written", BitRows.NONE, x.find(0));
        x.pass(0, 1);
        CHECKS.due("find of a part of it", BitRows.NONE, x.find(0));
        x.pass(1, 1);
        CHECKS.due("find of a mark that came", 0, x.find(0));
    }
}
