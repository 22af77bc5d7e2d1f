/** Many runs of calls, made by a fixed rule, whose answers are compared with the model's. */
public final class ModelRunsTest {
    private static final int RUNS = 800;
    /** An object is good for so many calls. */
    private static final int CALLS = 512;
    /** A call, at times one to clear before it and six to be told behind it. */
    private static final int CALLS_AT_A_TIME = 8;
    private static final int[] STUFFINGS = {0, 1, 1, 2, 3, 5, 1, 8, 16, 2, -4, 40};
    private static final int[] ODD_NUMBERS = {Integer.MIN_VALUE, -33, -1, 0, 33, 127, 256, 600, 601, 4800,
        Integer.MAX_VALUE};
    private static final int[] WEIGHTY_BYTES = {255, 255, 255, 127, 128, 254, 1, 0, 200};

    private final Checks checks;
    private final int run;
    private final boolean wide;
    private long seed;
    private BitRows x;
    private Model model;
    private String call = "";
    private long due;

    private ModelRunsTest(Checks checks, int run) {
        this.checks = checks;
        this.run = run;
        this.wide = run % 5 == 0;
        this.seed = run * 7919L + 17;
    }

    public static void main(String[] args) {
        Checks checks = new Checks();
        for (int run = 0; run < RUNS; run++) {
            new ModelRunsTest(checks, run).go();
        }
        checks.end();
    }

    private void go() {
        int stuffing = STUFFINGS[run % STUFFINGS.length];
        int order = run / STUFFINGS.length % 2 == 0 ? 0 : upTo(9) - 4;
        x = new BitRows(stuffing, order);
        model = new Model(stuffing, order);
        int calls = wide ? fillMuch() : 0;
        for (int i = 0; calls + CALLS_AT_A_TIME <= CALLS; i++) {
            calls += clearAtTimesIfBad() + 1;
            int kind = upTo(100);
            long got;
            try {
                got = answer(kind);
            } catch (IllegalStateException e) {
                got = Model.STATE;
            } catch (IllegalArgumentException e) {
                got = Model.ARGUMENT;
            } catch (IndexOutOfBoundsException e) {
                got = e.getClass() == IndexOutOfBoundsException.class ? Model.INDEX : -99;
            } catch (UnsupportedOperationException e) {
                got = Model.OPERATION;
            }
            checks.due("run " + run + ", call " + i + ", " + call, due, got);
            calls += i % 8 == 0 ? tellAll("behind call " + i + ", " + call) : 0;
        }
    }

    /** So that a run comes to the limits of what may be written and what may come. */
    private int fillMuch() {
        for (int i = 0; i < 90; i++) {
            int v = value();
            checks.due("run " + run + ", put(32, " + v + ")", model.put(32, v), x.put(32, v));
        }
        checks.due("run " + run + ", pass(0, 300)", model.pass(0, 300), x.pass(0, 300));
        return 91;
    }

    private int tellAll(String where) {
        for (int what = 2; what < 8; what++) {
            checks.due("run " + run + ", told(" + what + ") " + where, model.told(what), x.told(what));
        }
        return 6;
    }

    /** Else most of a run by runs would be answered BAD. */
    private int clearAtTimesIfBad() {
        if (model.told(7) == 1 && upTo(12) == 0) {
            model.clear();
            x.clear();
            return 1;
        }
        return 0;
    }

    private long answer(int kind) {
        int a = number();
        int b = number();
        if (kind < 30) {
            int bits = wide ? 32 - upTo(2) : width();
            int v = value();
            call = "put(" + bits + ", " + v + ")";
            due = model.put(bits, v);
            return x.put(bits, v);
        } else if (kind < 34) {
            call = "align()";
            due = model.align();
            return x.align();
        } else if (kind < 38) {
            int code = upTo(4) == 0 ? a : 255 - upTo(3) * 55;
            call = "mark(" + code + ")";
            due = model.mark(code);
            return x.mark(code);
        } else if (kind < 43) {
            int bits = width();
            call = "patch(" + a + ", " + bits + ", " + b + ")";
            due = model.patch(a, bits, b);
            return x.patch(a, bits, b);
        } else if (kind < 48) {
            call = "byteAt(" + a + ")";
            due = model.byteAt(a);
            return x.byteAt(a);
        }
        return answerOfReading(kind, a, b);
    }

    private long answerOfReading(int kind, int a, int b) {
        if (kind < 58) {
            int fed = upTo(30) == 0 ? a : upTo(2) == 0 ? upTo(256) : WEIGHTY_BYTES[upTo(WEIGHTY_BYTES.length)];
            call = "feed(" + fed + ")";
            due = model.feed(fed);
            return x.feed(fed);
        } else if (kind < 64) {
            call = "pass(" + a + ", " + b + ")";
            due = model.pass(a, b);
            return x.pass(a, b);
        } else if (kind < 86) {
            int bits = width();
            call = "get(" + bits + ")";
            due = model.get(bits);
            return x.get(bits);
        } else if (kind < 90) {
            call = "skip()";
            due = model.skip();
            return x.skip();
        } else if (kind < 95) {
            call = "take()";
            due = model.take();
            return x.take();
        } else if (kind < 97) {
            call = "find(" + a + ")";
            due = model.find(a);
            return x.find(a);
        }
        return answerOfOthers(kind, a, b);
    }

    private long answerOfOthers(int kind, int a, int b) {
        if (kind < 99) {
            boolean came = upTo(2) == 0;
            int width = upTo(8) == 0 ? a : 16 + 16 * upTo(2);
            call = "sum(" + came + ", " + width + ", " + a + ", " + b + ")";
            due = model.sum(came, width, a, b);
            return x.sum(came, width, a, b);
        }
        if (upTo(3) == 0 && !wide) {
            call = "clear()";
            model.clear();
            due = 0;
            x.clear();
            return 0;
        }
        call = "told(" + a + ")";
        due = model.told(a);
        return x.told(a);
    }

    /** A number that is often a place in the row, and at times an odd one. */
    private int number() {
        int kind = upTo(12);
        if (kind == 0) {
            return ODD_NUMBERS[upTo(ODD_NUMBERS.length)];
        }
        int written = (int) model.told(2);
        int most = kind < 4 ? 12 : kind < 8 ? written / 8 + 2 : kind < 10 ? (int) model.told(4) + 2 : written + 2;
        return upTo(most);
    }

    private int width() {
        int kind = upTo(20);
        return kind == 0 ? ODD_NUMBERS[upTo(ODD_NUMBERS.length)] : kind < 12 ? 1 + upTo(9) : 1 + upTo(32);
    }

    private int value() {
        int kind = upTo(4);
        return kind == 0 ? (int) next() : kind == 1 ? (int) next() | (int) next() | (int) next() : -1;
    }

    private int upTo(int n) {
        return (int) Long.remainderUnsigned(next(), n);
    }

    private long next() {
        seed = seed * 6364136223846793005L + 1442695040888963407L;
        return seed >>> 32 ^ seed >>> 13 & 0xffffffffL;
    }
}
