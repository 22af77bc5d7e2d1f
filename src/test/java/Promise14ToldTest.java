public final class Promise14ToldTest {
    private static final Checks CHECKS = new Checks();

    public static void main(String[] args) {
        BitRows x = new BitRows(1, 3);
        x.put(15, -1);
        x.mark(140);
        x.put(3, 2);
        x.pass(0, 4);
        x.feed(9);
        x.get(15);
        x.take();
        x.get(1);
        CHECKS.due("told(0)", 1, x.told(0));
        CHECKS.due("told(1)", 1, x.told(1));
        CHECKS.dueTold("by bytes", x, 35, 1, 5, 33, 1, 0);
        BitRows bad = new BitRows(5, 0);
        bad.put(10, -1);
        bad.feed(0xfc);
        bad.get(5);
        CHECKS.due("told(0)", 5, bad.told(0));
        CHECKS.due("told(1)", 0, bad.told(1));
        CHECKS.dueTold("BAD", bad, 12, 2, 1, 0, 0, 1);
        for (int what : new int[] {-1, 8, 9, Integer.MIN_VALUE, Integer.MAX_VALUE}) {
            CHECKS.due("told(" + what + ")", BitRows.NONE, bad.told(what));
        }
        CHECKS.end();
    }
}
