public final class Promise08PassTest {
    private static final Checks CHECKS = new Checks();

    public static void main(String[] args) {
        passing();
        refusals();
        limits();
        CHECKS.end();
    }

    private static void passing() {
        BitRows x = new BitRows(0, 0);
        x.put(32, 0x12345678);
        x.put(7, 127);
        CHECKS.due("pass(1, 2)", 2, x.pass(1, 2));
        CHECKS.due("pass(3, MAX)", 1, x.pass(3, Integer.MAX_VALUE));
        CHECKS.due("pass(0, 0)", 0, x.pass(0, 0));
        CHECKS.due("pass(0, 5)", 4, x.pass(0, 5));
        CHECKS.dueTold("passed", x, 39, 0, 7, 0, 0, 0);
        CHECKS.due("get(24)", 0x345678, x.get(24));
        CHECKS.due("get(32)", 0x12345678, x.get(32));
        CHECKS.due("get(1)", BitRows.NONE, x.get(1));
        BitRows marks = new BitRows(1, 1);
        marks.put(8, 255);
        CHECKS.due("pass of 255", 1, marks.pass(0, 9));
        CHECKS.due("255 alone is not read", BitRows.NONE, marks.get(1));
        marks.mark(130);
        CHECKS.due("pass the rest", 3, marks.pass(1, 9));
        CHECKS.due("get(15)", 255, marks.get(15));
        CHECKS.due("take", 130, marks.take());
    }

    private static void refusals() {
        BitRows empty = new BitRows(0, 0);
        CHECKS.refused("pass of an empty row", IndexOutOfBoundsException.class, empty, () -> empty.pass(0, 0));
        BitRows x = new BitRows(0, 0);
        x.put(23, 0x123456);
        for (int i : new int[] {-1, 2, 3, Integer.MIN_VALUE, Integer.MAX_VALUE}) {
            CHECKS.refused("pass(" + i + ", 1)", IndexOutOfBoundsException.class, x, () -> x.pass(i, 1));
            CHECKS.refused("pass(" + i + ", 0)", IndexOutOfBoundsException.class, x, () -> x.pass(i, 0));
            CHECKS.refused("pass(" + i + ", -1)", IndexOutOfBoundsException.class, x, () -> x.pass(i, -1));
        }
        for (int n : new int[] {-1, Integer.MIN_VALUE}) {
            CHECKS.refused("pass(1, " + n + ")", IllegalArgumentException.class, x, () -> x.pass(1, n));
        }
        CHECKS.due("pass(1, 1)", 1, x.pass(1, 1));
    }

    private static void limits() {
        BitRows x = new BitRows(0, 0);
        Checks.fillTo(x, 3200);
        CHECKS.due("pass(0, 400)", 400, x.pass(0, 400));
        CHECKS.refused("pass(0, 201)", UnsupportedOperationException.class, x, () -> x.pass(0, 201));
        CHECKS.refused("pass(0, MAX)", UnsupportedOperationException.class, x,
                () -> x.pass(0, Integer.MAX_VALUE));
        CHECKS.due("pass(200, MAX)", 200, x.pass(200, Integer.MAX_VALUE));
        CHECKS.due("pass(0, 0) when 600 came", 0, x.pass(0, 0));
        CHECKS.refused("pass(0, 1) when 600 came", UnsupportedOperationException.class, x, () -> x.pass(0, 1));
        CHECKS.refused("pass(0, -1) when 600 came", IllegalArgumentException.class, x, () -> x.pass(0, -1));
        CHECKS.refused("pass(400, 1) when 600 came", IndexOutOfBoundsException.class, x, () -> x.pass(400, 1));
    }
}
