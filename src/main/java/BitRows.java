import java.util.Arrays;

/**
 * Fields of bits written into bytes and read back, high first or low first, with stuffed bits,
 * marks, fields patched later and sums of bytes.
 */
public final class BitRows {

    public static final int NONE = -1, MARK = -2, BAD = -3;

    private static final int BY_BYTES = 1;
    private static final int LONGEST_RUN = 16;

    private static final int MOST_BITS = 4800;
    private static final int MOST_BYTES = 600;
    private static final int BITS_KEPT_FREE = 16;
    private static final int BITS_OF_ALIGNING = 16;
    private static final int BITS_OF_MARK = 32;
    private static final int WIDEST_FIELD = 32;

    private static final int FULL_BYTE = 255;
    private static final int LOWEST_CODE = 128;

    /** Aligning ends in the byte where it begins or in the one behind it. */
    private static final int LONGEST_WAY_TO_ALIGNED = 16;

    private final int stuffing;
    private final boolean lowFirst;
    private final boolean stuffsAtOnce;
    private final Row written;
    private final Track writing;
    private final Row came;
    private final Track reading;
    private boolean bad;

    public BitRows(int stuffing, int order) {
        this.stuffing = Math.max(0, Math.min(LONGEST_RUN, stuffing));
        this.lowFirst = order != 0;
        this.stuffsAtOnce = this.lowFirst || this.stuffing != BY_BYTES;
        this.written = new Row(this.lowFirst);
        this.writing = new Track(this.written, this.stuffing, this.lowFirst);
        this.came = new Row(this.lowFirst);
        this.reading = new Track(this.came, this.stuffing, this.lowFirst);
        this.bad = false;
    }

    public int put(int bits, int v) throws IllegalArgumentException, UnsupportedOperationException {
        refuseOtherWidths(bits);
        refuseToOverfill(bits);
        // The field's first bit stands behind a stuffed one that waited for it.
        writeStuffedIfDue();
        int place = writing.place;
        for (int i = 0; i < bits; i++) {
            writeBit(v >>> shiftOf(i, bits) & 1);
        }
        return place;
    }

    public int align() throws UnsupportedOperationException {
        refuseToOverfill(BITS_OF_ALIGNING);
        return writeTillAligned();
    }

    public int mark(int code)
            throws IllegalStateException, IllegalArgumentException, UnsupportedOperationException {
        if (stuffing != BY_BYTES) {
            throw new IllegalStateException("marks are only by bytes");
        }
        if (code < LOWEST_CODE || code > FULL_BYTE) {
            throw new IllegalArgumentException("a code is 128 .. 255");
        }
        refuseToOverfill(BITS_OF_MARK);
        writeTillAligned();
        int at = writing.place >> 3;
        written.addByte(FULL_BYTE);
        written.addByte(code);
        writing.stepOverMark();
        return at;
    }

    public int patch(int place, int bits, int v)
            throws IllegalStateException, IllegalArgumentException, IndexOutOfBoundsException {
        if (stuffing != 0) {
            throw new IllegalStateException("a stuffed row is not patched");
        }
        refuseOtherWidths(bits);
        if (place < 0 || place > writing.place - bits) {
            throw new IndexOutOfBoundsException("not all of these bits were written");
        }
        int before = 0;
        for (int i = 0; i < bits; i++) {
            int shift = shiftOf(i, bits);
            before |= written.bitOf(place + i) << shift;
            written.setBit(place + i, v >>> shift & 1);
        }
        return before;
    }

    public int byteAt(int i) throws IndexOutOfBoundsException {
        if (i < 0 || i >= written.count) {
            throw new IndexOutOfBoundsException("no such byte was written");
        }
        return written.byteOf(i);
    }

    public int feed(int b) throws IllegalArgumentException, UnsupportedOperationException {
        if (b < 0 || b > FULL_BYTE) {
            throw new IllegalArgumentException("a byte is 0 .. 255");
        }
        refuseMoreBytes(1);
        came.addByte(b);
        return came.count;
    }

    public int pass(int i, int n)
            throws IndexOutOfBoundsException, IllegalArgumentException, UnsupportedOperationException {
        int whole = writing.place >> 3;
        if (i < 0 || i >= whole) {
            throw new IndexOutOfBoundsException("no such whole byte was written");
        }
        if (n < 0) {
            throw new IllegalArgumentException("fewer than no bytes");
        }
        int many = Math.min(n, whole - i);
        refuseMoreBytes(many);
        for (int k = 0; k < many; k++) {
            came.addByte(written.byteOf(i + k));
        }
        return many;
    }

    public long get(int bits) throws IllegalArgumentException {
        refuseOtherWidths(bits);
        if (bad) {
            return BAD;
        }
        int place = reading.place;
        int stuffed = reading.stuffed;
        int ones = reading.ones;
        long field = 0;
        for (int i = 0; i < bits; i++) {
            int bit = readBit();
            if (bit < 0) {
                reading.goBack(place, stuffed, ones);
                bad = bit == BAD;
                return bit;
            }
            field |= (long) bit << shiftOf(i, bits);
        }
        return field;
    }

    public int skip() {
        if (bad || reading.isAligned()) {
            return 0;
        }
        int passed = 0;
        for (int i = 0; i < LONGEST_WAY_TO_ALIGNED && !reading.isAligned(); i++) {
            if (reading.isStuffedDue()) {
                reading.stepOverStuffed();
            } else {
                reading.stepOver(came.bitOf(reading.place));
                passed++;
            }
        }
        reading.ones = 0;
        return passed;
    }

    public int take() {
        int at = reading.place >> 3;
        if (bad || stuffing != BY_BYTES || !reading.isAtByte() || !came.isMarkAt(at)) {
            return NONE;
        }
        reading.stepOverMark();
        return came.byteOf(at + 1);
    }

    public int find(int from) throws IndexOutOfBoundsException {
        if (from < 0 || from > came.count) {
            throw new IndexOutOfBoundsException("no such byte came");
        }
        for (int i = from; i < came.count; i++) {
            if (came.isMarkAt(i)) {
                return i;
            }
        }
        return NONE;
    }

    public int sum(boolean came, int width, int from, int to)
            throws IllegalArgumentException, IndexOutOfBoundsException {
        if (width != 16 && width != 32) {
            throw new IllegalArgumentException("a sum has 16 or 32 bits");
        }
        Row row = came ? this.came : written;
        if (from < 0 || to < from || to > row.count) {
            throw new IndexOutOfBoundsException("not all of these bytes are there");
        }
        return width == 16 ? row.sumOf16(from, to) : row.sumOf32(from, to);
    }

    public int told(int what) {
        switch (what) {
            case 0:
                return stuffing;
            case 1:
                return lowFirst ? 1 : 0;
            case 2:
                return writing.place;
            case 3:
                return writing.stuffed;
            case 4:
                return came.count;
            case 5:
                return reading.place;
            case 6:
                return reading.stuffed;
            case 7:
                return bad ? 1 : 0;
            default:
                return NONE;
        }
    }

    public void clear() {
        written.empty();
        writing.goToStart();
        came.empty();
        reading.goToStart();
        bad = false;
    }

    private static void refuseOtherWidths(int bits) {
        if (bits < 1 || bits > WIDEST_FIELD) {
            throw new IllegalArgumentException("a field has 1 .. 32 bits");
        }
    }

    private void refuseToOverfill(int bits) {
        if (writing.place + 2 * bits + BITS_KEPT_FREE > MOST_BITS) {
            throw new UnsupportedOperationException("more bits than there may be");
        }
    }

    private void refuseMoreBytes(int many) {
        if (came.count + many > MOST_BYTES) {
            throw new UnsupportedOperationException("more bytes than may come");
        }
    }

    /** How far to the left a field's i-th bit stands in its number. */
    private int shiftOf(int i, int bits) {
        return lowFirst ? i : bits - 1 - i;
    }

    private void writeBit(int bit) {
        writeStuffedIfDue();
        written.setBit(writing.place, bit);
        writing.stepOver(bit);
        if (stuffsAtOnce) {
            writeStuffedIfDue();
        }
    }

    private void writeStuffedIfDue() {
        if (writing.isStuffedDue()) {
            written.setBit(writing.place, 0);
            writing.stepOverStuffed();
        }
    }

    private int writeTillAligned() {
        int zeros = 0;
        for (int i = 0; i < LONGEST_WAY_TO_ALIGNED && !writing.isAligned(); i++) {
            writeBit(0);
            zeros++;
        }
        return zeros;
    }

    /** The next bit, read with a stuffed one beside it; or NONE, MARK, BAD. */
    private int readBit() {
        int met = meetHere();
        if (met == 0) {
            met = readStuffedIfDue();
        }
        if (met != 0) {
            return met;
        }
        int bit = came.bitOf(reading.place);
        reading.stepOver(bit);
        if (stuffsAtOnce) {
            met = readStuffedIfDue();
        }
        return met == 0 ? bit : met;
    }

    /** NONE or MARK, if no bit can be read here; else 0. */
    private int meetHere() {
        if (!reading.isWithin()) {
            return NONE;
        }
        int at = reading.place >> 3;
        if (stuffing != BY_BYTES || !reading.isAtByte() || came.byteOf(at) != FULL_BYTE) {
            return 0;
        }
        // Only the byte behind a full one tells whether that one is of a mark.
        if (at + 1 >= came.count) {
            return NONE;
        }
        return came.isMarkAt(at) ? MARK : 0;
    }

    /** NONE or BAD, if a stuffed bit should be here and is not there, or is 1; else 0. */
    private int readStuffedIfDue() {
        if (!reading.isStuffedDue()) {
            return 0;
        }
        if (!reading.isWithin()) {
            return NONE;
        }
        if (came.bitOf(reading.place) != 0) {
            return BAD;
        }
        reading.stepOverStuffed();
        return 0;
    }

    /** Bytes, and their bits in the order that is asked for. */
    private static final class Row {
        private final boolean lowFirst;
        private final int[] bytes;
        private int count;

        Row(boolean lowFirst) {
            this.lowFirst = lowFirst;
            this.bytes = new int[MOST_BYTES];
            this.count = 0;
        }

        void empty() {
            Arrays.fill(bytes, 0);
            count = 0;
        }

        int byteOf(int i) {
            return i >= 0 && i < bytes.length ? bytes[i] : 0;
        }

        void addByte(int b) {
            if (count >= 0 && count < bytes.length) {
                bytes[count] = b;
                count++;
            }
        }

        int bitOf(int place) {
            return byteOf(place >> 3) >> shiftInByte(place) & 1;
        }

        void setBit(int place, int bit) {
            int i = place >> 3;
            if (i < 0 || i >= bytes.length) {
                return;
            }
            int shift = shiftInByte(place);
            bytes[i] = bytes[i] & ~(1 << shift) | bit << shift;
            count = Math.max(count, i + 1);
        }

        boolean isMarkAt(int i) {
            return i + 1 < count && byteOf(i) == FULL_BYTE && byteOf(i + 1) >= LOWEST_CODE;
        }

        int sumOf16(int from, int to) {
            int sum = 0xffff;
            for (int i = from; i < to; i++) {
                sum ^= byteOf(i) << 8;
                for (int k = 0; k < 8; k++) {
                    sum = (sum & 0x8000) != 0 ? sum << 1 ^ 4129 : sum << 1;
                }
                sum &= 0xffff;
            }
            return sum;
        }

        int sumOf32(int from, int to) {
            int sum = -1;
            for (int i = from; i < to; i++) {
                sum ^= byteOf(i);
                for (int k = 0; k < 8; k++) {
                    sum = (sum & 1) != 0 ? sum >>> 1 ^ 0xedb88320 : sum >>> 1;
                }
            }
            return ~sum;
        }

        private int shiftInByte(int place) {
            return lowFirst ? place & 7 : 7 - (place & 7);
        }
    }

    /** How far a row was written, or read, and where its stuffed bits fall due. */
    private static final class Track {
        private final Row row;
        private final int stuffing;
        private final int stuffedInByte;
        private int place;
        private int stuffed;
        private int ones;
        /** The byte behind the last mark: a full byte before it is that mark's code. */
        private int markEnd;

        Track(Row row, int stuffing, boolean lowFirst) {
            this.row = row;
            this.stuffing = stuffing;
            this.stuffedInByte = lowFirst ? 7 : 0;
            this.place = 0;
            this.stuffed = 0;
            this.ones = 0;
            this.markEnd = 0;
        }

        void goToStart() {
            goBack(0, 0, 0);
            markEnd = 0;
        }

        void goBack(int place, int stuffed, int ones) {
            this.place = place;
            this.stuffed = stuffed;
            this.ones = ones;
        }

        boolean isWithin() {
            return place < 8 * row.count;
        }

        boolean isAtByte() {
            return (place & 7) == 0;
        }

        boolean isAligned() {
            return isAtByte() && !(stuffing == BY_BYTES && isBehindFullByte());
        }

        boolean isStuffedDue() {
            if (stuffing > BY_BYTES) {
                return ones == stuffing;
            }
            return stuffing == BY_BYTES && (place & 7) == stuffedInByte && isBehindFullByte();
        }

        void stepOver(int bit) {
            place++;
            ones = bit == 1 ? ones + 1 : 0;
        }

        void stepOverStuffed() {
            place++;
            stuffed++;
            ones = 0;
        }

        void stepOverMark() {
            place += 16;
            markEnd = place >> 3;
        }

        private boolean isBehindFullByte() {
            int here = place >> 3;
            return here > 0 && here != markEnd && row.byteOf(here - 1) == FULL_BYTE;
        }
    }
}
