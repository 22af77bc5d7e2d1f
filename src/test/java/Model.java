import java.util.ArrayList;
import java.util.List;

/**
 * The document once more, slowly and in another way: what was written is a text of bits, stuffed
 * anew as a whole for each question; what is read is walked anew from the last fixed point.
 * Where the class throws, the answer is THROWS and a number for the exception.
 */
final class Model {
    static final long THROWS = 1L << 40;
    static final long STATE = THROWS;
    static final long ARGUMENT = THROWS + 1;
    static final long INDEX = THROWS + 2;
    static final long OPERATION = THROWS + 3;

    final int stuffing;
    final boolean lowFirst;

    /** Sections between marks, each a text of bits without stuffed ones, and the marks' codes. */
    private final List<StringBuilder> sections = new ArrayList<>();
    private final List<Integer> codes = new ArrayList<>();
    private int sectionBegin = 0;
    private String stuffedRow = "";
    private int stuffedCount = 0;

    private final List<Integer> came = new ArrayList<>();
    /** Where bits 1 are counted from, by runs; where the last mark ended, by bytes. */
    private int fixed = 0;
    private int fieldBits = 0;
    private int readStuffedBeforeFixed = 0;
    private boolean bad = false;

    Model(int stuffing, int order) {
        this.stuffing = stuffing < 0 ? 0 : stuffing > 16 ? 16 : stuffing;
        this.lowFirst = order != 0;
        sections.add(new StringBuilder());
    }

    long put(int bits, int v) {
        if (bits < 1 || bits > 32) {
            return ARGUMENT;
        }
        if (stuffedRow.length() + 2 * bits + 16 > 4800) {
            return OPERATION;
        }
        int place = stuffedRow.length();
        if (stuffing == 1 && !lowFirst && !aligned() && place % 8 == 0) {
            place++;
        }
        last().append(field(bits, v));
        stuff();
        return place;
    }

    long align() {
        if (stuffedRow.length() + 48 > 4800) {
            return OPERATION;
        }
        return alignNow();
    }

    long mark(int code) {
        if (stuffing != 1) {
            return STATE;
        }
        if (code < 128 || code > 255) {
            return ARGUMENT;
        }
        if (stuffedRow.length() + 80 > 4800) {
            return OPERATION;
        }
        alignNow();
        int at = stuffedRow.length() / 8;
        codes.add(code);
        sections.add(new StringBuilder());
        sectionBegin = at + 2;
        stuff();
        return at;
    }

    long patch(int place, int bits, int v) {
        if (stuffing != 0) {
            return STATE;
        }
        if (bits < 1 || bits > 32) {
            return ARGUMENT;
        }
        if (place < 0 || (long) place + bits > last().length()) {
            return INDEX;
        }
        long before = number(last().substring(place, place + bits));
        last().replace(place, place + bits, field(bits, v));
        stuff();
        return (int) before;
    }

    long byteAt(int i) {
        return i < 0 || i >= bytes() ? INDEX : byteOf(i);
    }

    long feed(int b) {
        if (b < 0 || b > 255) {
            return ARGUMENT;
        }
        if (came.size() == 600) {
            return OPERATION;
        }
        came.add(b);
        return came.size();
    }

    long pass(int i, int n) {
        int whole = stuffedRow.length() / 8;
        if (i < 0 || i >= whole) {
            return INDEX;
        }
        if (n < 0) {
            return ARGUMENT;
        }
        int many = whole - i < n ? whole - i : n;
        if (came.size() + many > 600) {
            return OPERATION;
        }
        for (int k = i; k < i + many; k++) {
            came.add((int) byteOf(k));
        }
        return many;
    }

    long get(int bits) {
        if (bits < 1 || bits > 32) {
            return ARGUMENT;
        }
        if (bad) {
            return -3;
        }
        Walk walk = walk(fieldBits + bits);
        if (walk.end != 0) {
            bad = walk.end == -3;
            return walk.end;
        }
        fieldBits += bits;
        return number(walk.field.substring(walk.field.length() - bits));
    }

    long skip() {
        if (bad) {
            return 0;
        }
        Walk walk = walk(fieldBits);
        int place = walk.place;
        int boundary = (place + 7) / 8 * 8;
        if (stuffing == 1) {
            return skipByBytes(walk, boundary);
        }
        int passed = 0;
        int ones = walk.ones;
        while (place < boundary) {
            boolean stuffed = stuffing > 1 && ones == stuffing;
            boolean one = !stuffed && cameBits().charAt(place) == '1';
            walk.stuffed += stuffed ? 1 : 0;
            passed += stuffed ? 0 : 1;
            ones = one ? ones + 1 : 0;
            place++;
        }
        if (passed > 0) {
            readStuffedBeforeFixed += walk.stuffed;
            fixed = boundary;
            fieldBits = 0;
        }
        return passed;
    }

    private long skipByBytes(Walk walk, int boundary) {
        int bitsBefore = fieldBits;
        while (walk.place < boundary || isFullOfBits(walk.place / 8 - 1)) {
            fieldBits++;
            walk = walk(fieldBits);
            if (walk.end != 0) {
                throw new AssertionError("a bit passed over is not there");
            }
            boundary = (walk.place + 7) / 8 * 8;
        }
        return fieldBits - bitsBefore;
    }

    long take() {
        int place = walk(fieldBits).place;
        if (bad || stuffing != 1 || place % 8 != 0 || !markAt(place / 8)) {
            return -1;
        }
        readStuffedBeforeFixed += walk(fieldBits).stuffed;
        fixed = place + 16;
        fieldBits = 0;
        return came.get(place / 8 + 1);
    }

    long find(int from) {
        if (from < 0 || from > came.size()) {
            return INDEX;
        }
        for (int i = from; i < came.size(); i++) {
            if (markAt(i)) {
                return i;
            }
        }
        return -1;
    }

    long sum(boolean ofCame, int width, int from, int to) {
        if (width != 16 && width != 32) {
            return ARGUMENT;
        }
        if (from < 0 || to < from || to > (ofCame ? came.size() : bytes())) {
            return INDEX;
        }
        long sum = width == 16 ? 0xffffL : 0xffffffffL;
        for (int i = from; i < to; i++) {
            long b = ofCame ? came.get(i) : byteOf(i);
            for (int k = 0; k < 8; k++) {
                sum = width == 16 ? sum16(sum, b >> 7 - k & 1) : sum32(sum, b >> k & 1);
            }
        }
        return width == 16 ? sum : (int) (sum ^ 0xffffffffL);
    }

    private static long sum16(long sum, long bit) {
        long out = sum / 32768;
        long shifted = sum * 2 % 65536;
        return out != bit ? shifted ^ 4129 : shifted;
    }

    private static long sum32(long sum, long bit) {
        long out = sum % 2;
        long shifted = sum / 2;
        return out != bit ? shifted ^ 0xedb88320L : shifted;
    }

    long told(int what) {
        Walk walk = walk(fieldBits);
        long[] all = {stuffing, lowFirst ? 1 : 0, stuffedRow.length(), stuffedCount, came.size(),
            walk.place, readStuffedBeforeFixed + walk.stuffed, bad ? 1 : 0};
        return what < 0 || what >= all.length ? -1 : all[what];
    }

    void clear() {
        sections.clear();
        sections.add(new StringBuilder());
        codes.clear();
        sectionBegin = 0;
        came.clear();
        fixed = 0;
        fieldBits = 0;
        readStuffedBeforeFixed = 0;
        bad = false;
        stuff();
    }

    private StringBuilder last() {
        return sections.get(sections.size() - 1);
    }

    private String field(int bits, int v) {
        StringBuilder s = new StringBuilder();
        for (int i = bits - 1; i >= 0; i--) {
            s.append((v >> i & 1) == 1 ? '1' : '0');
        }
        return lowFirst ? s.reverse().toString() : s.toString();
    }

    private long number(String bits) {
        return Long.parseLong(lowFirst ? new StringBuilder(bits).reverse().toString() : bits, 2);
    }

    private boolean aligned() {
        int n = stuffedRow.length();
        return n % 8 == 0
                && !(stuffing == 1 && n / 8 > sectionBegin && byteOf(n / 8 - 1) == 255);
    }

    private long alignNow() {
        int zeros = 0;
        while (!aligned()) {
            last().append('0');
            stuff();
            zeros++;
        }
        return zeros;
    }

    private void stuff() {
        StringBuilder row = new StringBuilder();
        stuffedCount = 0;
        for (int i = 0; i < sections.size(); i++) {
            if (i > 0) {
                row.append("11111111");
                String code = Integer.toBinaryString(codes.get(i - 1));
                row.append(lowFirst ? new StringBuilder(code).reverse() : code);
            }
            String section = stuffSection(sections.get(i).toString());
            stuffedCount += section.length() - sections.get(i).length();
            row.append(section);
        }
        stuffedRow = row.toString();
    }

    private String stuffSection(String bits) {
        if (stuffing == 0) {
            return bits;
        }
        if (stuffing > 1) {
            String run = "1".repeat(stuffing);
            return bits.replace(run, run + "0");
        }
        StringBuilder row = new StringBuilder();
        int i = 0;
        boolean behindFull = false;
        while (i < bits.length()) {
            int room = behindFull ? 7 : 8;
            String part = bits.substring(i, Math.min(bits.length(), i + room));
            if (behindFull && !lowFirst) {
                part = "0" + part;
            } else if (behindFull && part.length() == 7) {
                part = part + "0";
            }
            row.append(part);
            i += room;
            behindFull = part.equals("11111111");
        }
        return row.toString();
    }

    private int bytes() {
        return (stuffedRow.length() + 7) / 8;
    }

    private long byteOf(int i) {
        String bits = stuffedRow.substring(8 * i, Math.min(stuffedRow.length(), 8 * i + 8));
        String whole = bits + "0".repeat(8 - bits.length());
        return number(whole);
    }

    private boolean markAt(int i) {
        return i >= 0 && i + 1 < came.size() && came.get(i) == 255 && came.get(i + 1) > 127;
    }

    private String cameBits() {
        StringBuilder s = new StringBuilder();
        for (int b : came) {
            s.append(field(8, b));
        }
        return s.toString();
    }

    /** A byte that is 255 and, seen from the last mark that was read on, not of a mark. */
    private boolean isFullOfBits(int i) {
        return i >= fixed / 8 && i < came.size() && came.get(i) == 255;
    }

    private static final class Walk {
        final StringBuilder field = new StringBuilder();
        int place;
        int stuffed;
        int ones;
        int end;
    }

    /** From the last fixed point on, over so many bits that are not stuffed, if it can. */
    private Walk walk(int bits) {
        return stuffing == 1 ? walkByBytes(bits) : walkByRuns(bits);
    }

    private Walk walkByBytes(int bits) {
        Walk walk = new Walk();
        int i = fixed / 8;
        walk.place = fixed;
        while (walk.field.length() < bits) {
            if (i >= came.size() || came.get(i) == 255 && i + 1 == came.size()) {
                walk.end = -1;
                return walk;
            }
            if (markAt(i)) {
                walk.end = -2;
                return walk;
            }
            String all = field(8, came.get(i));
            boolean behindFull = isFullOfBits(i - 1);
            String part = !behindFull ? all : lowFirst ? all.substring(0, 7) : all.substring(1);
            int used = Math.min(part.length(), bits - walk.field.length());
            walk.field.append(part, 0, used);
            boolean withStuffed = behindFull && (!lowFirst || used == 7);
            walk.stuffed += withStuffed ? 1 : 0;
            walk.place += used + (withStuffed ? 1 : 0);
            i++;
        }
        return walk;
    }

    private Walk walkByRuns(int bits) {
        Walk walk = new Walk();
        walk.place = fixed;
        String row = cameBits();
        while (walk.field.length() < bits) {
            boolean stuffs = stuffing > 1 && walk.ones == stuffing - 1
                    && walk.place < row.length() && row.charAt(walk.place) == '1';
            int needed = stuffs ? 2 : 1;
            if (walk.place + needed > row.length()) {
                walk.end = -1;
                return walk;
            }
            if (stuffs && row.charAt(walk.place + 1) == '1') {
                walk.end = -3;
                return walk;
            }
            char bit = row.charAt(walk.place);
            walk.field.append(bit);
            walk.ones = stuffs || bit == '0' ? 0 : walk.ones + 1;
            walk.stuffed += stuffs ? 1 : 0;
            walk.place += needed;
        }
        return walk;
    }
}
