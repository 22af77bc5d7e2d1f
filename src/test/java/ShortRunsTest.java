/**
 * All runs of a few calls, each from a small choice that meets every edge of stuffing, marks and bytes
 * that did not come yet: the class answers, and tells, what the model does.
 */
public final class ShortRunsTest {
    private static final Checks CHECKS = new Checks();
    private static final int[][] FIELDS = {{1, 1}, {3, 0}, {7, -1}, {8, -1}, {15, -1}, {32, -1}};
    private static final int[] CODES = {128, 255};
    private static final int ALIGN = FIELDS.length;
    private static final int WRITING_CHOICE = ALIGN + 1 + CODES.length;
    private static final int WRITING_CALLS = 4;

    private static final int[] BYTES = {0, 127, 128, 255, 0x6d};
    private static final int MOST_BYTES = 3;
    private static final int[] WIDTHS = {1, 2, 7, 8, 9, 15};
    private static final int SKIP = WIDTHS.length;
    private static final int READING_CHOICE = SKIP + 2;
    private static final int READING_CALLS = 3;

    public static void main(String[] args) {
        for (int order = 0; order < 2; order++) {
            for (int stuffing : new int[] {0, 1, 2, 3, 7, 8, 9, 16}) {
                writeAll(stuffing, order);
                readAll(stuffing, order);
            }
        }
        CHECKS.end();
    }

    private static void writeAll(int stuffing, int order) {
        for (int run = 0; run < power(WRITING_CHOICE, WRITING_CALLS); run++) {
            BitRows x = new BitRows(stuffing, order);
            Model model = new Model(stuffing, order);
            String where = "writing run " + run + " of " + stuffing + ", " + order;
            for (int k = 0, rest = run; k < WRITING_CALLS; k++, rest /= WRITING_CHOICE) {
                int choice = rest % WRITING_CHOICE;
                CHECKS.due(where + ", call " + k, written(model, choice), written(x, choice));
                dueTold(where + ", call " + k, model, x, 2, 3);
            }
            for (int i = 0; 8 * i < model.told(2); i++) {
                CHECKS.due(where + ", byte " + i, model.byteAt(i), x.byteAt(i));
            }
        }
    }

    private static long written(BitRows x, int choice) {
        if (choice < ALIGN) {
            return x.put(FIELDS[choice][0], FIELDS[choice][1]);
        }
        if (choice == ALIGN) {
            return x.align();
        }
        try {
            return x.mark(CODES[choice - ALIGN - 1]);
        } catch (IllegalStateException e) {
            return Model.STATE;
        }
    }

    private static long written(Model model, int choice) {
        if (choice < ALIGN) {
            return model.put(FIELDS[choice][0], FIELDS[choice][1]);
        }
        return choice == ALIGN ? model.align() : model.mark(CODES[choice - ALIGN - 1]);
    }

    private static void readAll(int stuffing, int order) {
        for (int bytes = 0; bytes < power(BYTES.length, MOST_BYTES); bytes++) {
            for (int first = 1; first <= MOST_BYTES; first++) {
                for (int run = 0; run < power(READING_CHOICE, READING_CALLS); run++) {
                    read(stuffing, order, bytes, first, run);
                }
            }
        }
    }

    /** Some bytes are there at first; the others come behind the first call. */
    private static void read(int stuffing, int order, int bytes, int first, int run) {
        BitRows x = new BitRows(stuffing, order);
        Model model = new Model(stuffing, order);
        String where = "reading run " + bytes + ", " + first + ", " + run + " of " + stuffing + ", " + order;
        feed(model, x, bytes, 0, first);
        for (int k = 0, rest = run; k < READING_CALLS; k++, rest /= READING_CHOICE) {
            int choice = rest % READING_CHOICE;
            CHECKS.due(where + ", call " + k, read(model, choice), read(x, choice));
            dueTold(where + ", call " + k, model, x, 5, 7);
            if (k == 0) {
                feed(model, x, bytes, first, MOST_BYTES);
            }
        }
    }

    private static void feed(Model model, BitRows x, int bytes, int from, int to) {
        for (int i = from; i < to; i++) {
            int b = BYTES[bytes / power(BYTES.length, i) % BYTES.length];
            CHECKS.due("feed(" + b + ")", model.feed(b), x.feed(b));
        }
    }

    private static long read(BitRows x, int choice) {
        if (choice < SKIP) {
            return x.get(WIDTHS[choice]);
        }
        return choice == SKIP ? x.skip() : x.take();
    }

    private static long read(Model model, int choice) {
        if (choice < SKIP) {
            return model.get(WIDTHS[choice]);
        }
        return choice == SKIP ? model.skip() : model.take();
    }

    private static void dueTold(String where, Model model, BitRows x, int from, int to) {
        for (int what = from; what <= to; what++) {
            CHECKS.due(where + ": told(" + what + ")", model.told(what), x.told(what));
        }
    }

    private static int power(int of, int times) {
        int product = 1;
        for (int i = 0; i < times; i++) {
            product *= of;
        }
        return product;
    }
}
