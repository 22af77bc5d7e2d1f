/** Compares answers with those that are due, prints each one that differs, and counts them. */
final class Checks {
    interface Call {
        long answer();
    }

    private int wrong = 0;

    void due(String what, long want, long got) {
        if (got != want) {
            tell(what + " answered " + got + ", due is " + want);
        }
    }

    /** The call throws just this exception, and nothing that can be asked for differs behind it. */
    void refused(String what, Class<? extends RuntimeException> want, BitRows x, Call call) {
        String before = stateOf(x);
        try {
            tell(what + " answered " + call.answer() + ", due is " + want.getSimpleName());
        } catch (RuntimeException e) {
            if (e.getClass() != want) {
                tell(what + " threw " + e + ", due is " + want.getSimpleName());
            }
        }
        String after = stateOf(x);
        if (!after.equals(before)) {
            tell(what + " changed " + before + " to " + after);
        }
    }

    void dueTold(String what, BitRows x, int... from2On) {
        for (int i = 0; i < from2On.length; i++) {
            due(what + ": told(" + (2 + i) + ")", from2On[i], x.told(2 + i));
        }
    }

    void dueBytes(String what, BitRows x, int... bytes) {
        for (int i = 0; i < bytes.length; i++) {
            due(what + ": byteAt(" + i + ")", bytes[i], x.byteAt(i));
        }
        refused(what + ": byteAt behind the last", IndexOutOfBoundsException.class, x,
                () -> x.byteAt(bytes.length));
    }

    void tell(String text) {
        wrong++;
        System.out.println(text);
    }

    void end() {
        if (wrong != 0) {
            System.out.println(wrong + " answers are not as due");
            System.exit(1);
        }
    }

    static void feedAll(BitRows x, int... bytes) {
        for (int b : bytes) {
            x.feed(b);
        }
    }

    /** A new row of so many bits, all 0. */
    static BitRows filled(int stuffing, int order, int bits) {
        BitRows x = new BitRows(stuffing, order);
        fillTo(x, bits);
        return x;
    }

    /** Puts bits 0 till so many are written, each time the widest field that is not refused. */
    static void fillTo(BitRows x, int bits) {
        for (int place = x.told(2); place < bits; ) {
            int width = Math.min(32, Math.min(bits - place, (4784 - place) / 2));
            x.put(width, 0);
            place += width;
        }
    }

    static void putOnes(BitRows x, int many) {
        for (int i = 0; i < many; i++) {
            x.put(1, 1);
        }
    }

    /** Bits in the order in which they are read; the last byte's other bits are 0. */
    static void feedBits(BitRows x, String spaced) {
        boolean low = x.told(1) == 1;
        String bits = spaced.replace(" ", "");
        for (int i = 0; i < bits.length(); i += 8) {
            int b = 0;
            for (int k = i; k < Math.min(bits.length(), i + 8); k++) {
                b |= bits.charAt(k) == '1' ? (low ? 1 << k - i : 128 >> k - i) : 0;
            }
            x.feed(b);
        }
    }

    /** All bits that were written, in the order in which they were. */
    void dueBits(String what, BitRows x, String spaced) {
        String bits = spaced.replace(" ", "");
        boolean low = x.told(1) == 1;
        int many = x.told(2);
        StringBuilder got = new StringBuilder();
        for (int i = 0; 8 * i < many; i++) {
            int b = x.byteAt(i);
            for (int k = 0; k < Math.min(8, many - 8 * i); k++) {
                got.append(b >> (low ? k : 7 - k) & 1);
            }
        }
        if (!bits.contentEquals(got)) {
            tell(what + ": bits written are " + got + ", due are " + bits);
        }
    }

    /** In few calls, as an object is good for 512 of them. */
    static String stateOf(BitRows x) {
        StringBuilder s = new StringBuilder();
        for (int what = 0; what < 8; what++) {
            s.append(x.told(what)).append(' ');
        }
        s.append(x.sum(false, 32, 0, (x.told(2) + 7) / 8)).append(' ');
        return s.append(x.sum(true, 32, 0, x.told(4))).toString();
    }
}
