/** Compares answers with those that are due, prints each one that differs, and counts them. */
final class Checks {
    interface Call {
        long answer();
    }

    private int wrong = 0;

    void due(String what, long want, long got) {
        if (got != want) {
            tell(what + " answered " + got + ", due is " + want);
        }
    }

    /** The call throws just this exception, and nothing that can be asked for differs behind it. */
    void refused(String what, Class<? extends RuntimeException> want, BitRows x, Call call) {
        String before = stateOf(x);
        try {
            tell(what + " answered " + call.answer() + ", due is " + want.getSimpleName());
        } catch (RuntimeException e) {
            if (e.getClass() != want) {
                tell(what + " threw " + e + ", due is " + want.getSimpleName());
            }
        }
        String after = stateOf(x);
        if (!after.equals(before)) {
            tell(what + " changed " + before + " to " + after);
        }
    }

    void dueTold(String what, BitRows x, int... from2On) {
        for (int i = 0; i < from2On.length; i++) {
            due(what + ": told(" + (2 + i) + ")", from2On[i], x.told(2 + i));
        }
    }

    void dueBytes(String what, BitRows x, int... bytes) {
        for (int i = 0; i < bytes.length; i++) {
            due(what + ": byteAt(" + i + ")", bytes[i], x.byteAt(i));
        }
        refused(what + ": byteAt behind the last", IndexOutOfBoundsException.class, x,
                () -> x.byteAt(bytes.length));
    }

    void tell(String text) {
        wrong++;
        System.out.println(text);
    }

    void end() {
        if (wrong != 0) {
            System.out.println(wrong + " answers are not as due");
            System.exit(1);
        }
    }

    static void feedAll(BitRows x, int... bytes) {
        for (int b : bytes) {
            x.feed(b);
        }
    }

    /** Puts bits 0 till so many are written, one by one where a wide field is refused. */
    static void fillTo(BitRows x, int bits) {
        while (x.told(2) + 32 <= Math.min(bits, 4752)) {
            x.put(32, 0);
        }
        while (x.told(2) < bits) {
            x.put(1, 0);
        }
    }

    static String stateOf(BitRows x) {
        StringBuilder s = new StringBuilder();
        for (int what = 0; what < 8; what++) {
            s.append(x.told(what)).append(' ');
        }
        for (int i = 0; i < (x.told(2) + 7) / 8; i++) {
            s.append(x.byteAt(i)).append(',');
        }
        return s.append(' ').append(x.sum(true, 32, 0, x.told(4))).toString();
    }
}
