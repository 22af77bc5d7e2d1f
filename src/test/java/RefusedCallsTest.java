import java.util.ArrayList;
import java.util.List;

/**
 * "Of several that a call names, the first one. A call that throws changes nothing." Each call that is
 * refused is made in many states on one of two objects that are alike; both must then answer alike,
 * call by call, so that nothing that is kept inside (runs, bits that wait, marks) has changed either.
 */
public final class RefusedCallsTest {
    private static final Checks CHECKS = new Checks();
    private static final int MIN = Integer.MIN_VALUE;
    private static final int MAX = Integer.MAX_VALUE;
    private static final String STATE = "IllegalStateException";
    private static final String ARGUMENT = "IllegalArgumentException";
    private static final String INDEX = "IndexOutOfBoundsException";
    private static final String OPERATION = "UnsupportedOperationException";

    private static final int[] NO_WIDTHS = {MIN, -1, 0, 33, MAX};
    private static final int[] NO_CODES = {MIN, -1, 0, 127, 256, MAX};
    private static final int[] NO_BYTES = {MIN, -1, 256, MAX};

    interface Call {
        long on(BitRows x);
    }

    private static final class Refused {
        final String name;
        final String due;
        final Call call;

        Refused(String name, String due, Call call) {
            this.name = name;
            this.due = due;
            this.call = call;
        }
    }

    /** What one object is made to be before a call is refused. */
    private enum Scene {
        EMPTY {
            @Override
            void play(BitRows x) {
            }
        },
        IN_A_RUN {
            @Override
            void play(BitRows x) {
                int n = Math.max(2, x.told(0));
                x.put(n - 1, -1);
                Checks.feedBits(x, "1".repeat(n - 1) + "0");
                x.get(n - 1);
            }
        },
        BEHIND_255 {
            @Override
            void play(BitRows x) {
                x.put(8, 255);
                Checks.feedAll(x, 255, 0x2a, 255);
                x.get(8);
            }
        },
        BEHIND_MARKS {
            @Override
            void play(BitRows x) {
                if (x.told(0) == 1) {
                    x.mark(255);
                }
                Checks.feedAll(x, 255, 255, 255, 3);
                x.take();
            }
        },
        IN_A_BYTE {
            @Override
            void play(BitRows x) {
                x.put(30, 0x2fffbff5);
                x.pass(0, 3);
                x.get(5);
            }
        },
        BAD {
            @Override
            void play(BitRows x) {
                x.put(20, 0x777);
                Checks.feedAll(x, 255, 255, 255);
                x.get(17);
            }
        },
        FULL {
            @Override
            void play(BitRows x) {
                Checks.fillTo(x, 4776);
                x.put(3, 7);
                x.pass(0, 597);
                Checks.feedAll(x, 255, 7, 255);
                x.get(32);
            }
        };

        abstract void play(BitRows x);
    }

    public static void main(String[] args) {
        for (int stuffing = 0; stuffing <= 16; stuffing++) {
            for (int order = 0; order < 2; order++) {
                for (Scene scene : Scene.values()) {
                    refuseAll(stuffing, order, scene);
                }
            }
        }
        CHECKS.end();
    }

    private static BitRows played(int stuffing, int order, Scene scene) {
        BitRows x = new BitRows(stuffing, order);
        scene.play(x);
        return x;
    }

    private static void refuseAll(int stuffing, int order, Scene scene) {
        String due = wayOn(played(stuffing, order, scene));
        for (Refused r : refusedIn(played(stuffing, order, scene))) {
            BitRows x = played(stuffing, order, scene);
            String what = r.name + " in " + scene + ", stuffing " + stuffing + ", order " + order;
            String got = answer(() -> r.call.on(x));
            if (!got.equals(r.due)) {
                CHECKS.tell(what + " answered " + got + ", due is " + r.due);
            }
            String after = wayOn(x);
            if (!after.equals(due)) {
                CHECKS.tell(what + " changed what comes behind it: " + after + ", due is " + due);
            }
        }
    }

    private static String answer(Checks.Call call) {
        try {
            return "" + call.answer();
        } catch (RuntimeException e) {
            return e.getClass().getSimpleName();
        }
    }

    /** Answers of calls that show what an object holds. */
    private static String wayOn(BitRows x) {
        List<Checks.Call> calls = new ArrayList<>();
        calls.add(() -> x.sum(false, 32, 0, (x.told(2) + 7) / 8));
        calls.add(() -> x.sum(true, 32, 0, x.told(4)));
        calls.add(() -> x.find(0));
        for (int i = 0; i < 2; i++) {
            calls.add(() -> x.put(1, 1));
            calls.add(() -> x.get(1));
        }
        calls.add(() -> x.put(8, 0x7e));
        calls.add(() -> x.take());
        calls.add(() -> x.get(6));
        calls.add(() -> x.align());
        calls.add(() -> x.skip());
        calls.add(() -> x.mark(255));
        calls.add(() -> x.put(17, -1));
        calls.add(() -> x.patch(3, 9, 0x155));
        calls.add(() -> x.feed(255));
        calls.add(() -> x.feed(128));
        calls.add(() -> x.get(8));
        calls.add(() -> x.take());
        calls.add(() -> x.pass(0, 2));
        calls.add(() -> x.get(16));
        calls.add(() -> x.sum(false, 16, 0, (x.told(2) + 7) / 8));
        calls.add(() -> x.sum(true, 16, 0, x.told(4)));
        StringBuilder s = new StringBuilder(toldOf(x));
        for (Checks.Call call : calls) {
            s.append(answer(call)).append(':').append(toldOf(x));
        }
        x.clear();
        return s.append(toldOf(x)).toString();
    }

    private static String toldOf(BitRows x) {
        StringBuilder s = new StringBuilder();
        for (int what = 0; what < 8; what++) {
            s.append(x.told(what)).append(what < 7 ? ' ' : ';');
        }
        return s.toString();
    }

    private static List<Refused> refusedIn(BitRows x) {
        List<Refused> all = new ArrayList<>();
        int stuffing = x.told(0);
        int bits = x.told(2);
        int came = x.told(4);
        addWriting(all, stuffing, bits);
        if (stuffing == 0) {
            addPatches(all, bits);
        }
        addBytes(all, bits, came);
        addPasses(all, bits / 8, came);
        addFinds(all, came);
        addSums(all, (bits + 7) / 8, came);
        return all;
    }

    private static void addWriting(List<Refused> all, int stuffing, int bits) {
        for (int width : NO_WIDTHS) {
            all.add(new Refused("put(" + width + ", -1)", ARGUMENT, x -> x.put(width, -1)));
            all.add(new Refused("get(" + width + ")", ARGUMENT, x -> x.get(width)));
        }
        for (int code : NO_CODES) {
            all.add(new Refused("mark(" + code + ")", stuffing == 1 ? ARGUMENT : STATE, x -> x.mark(code)));
        }
        if (stuffing != 1) {
            all.add(new Refused("mark(128)", STATE, x -> x.mark(128)));
        } else if (bits > 4720) {
            all.add(new Refused("mark(128)", OPERATION, x -> x.mark(128)));
        }
        if (stuffing != 0) {
            all.add(new Refused("patch(0, 1, 0)", STATE, x -> x.patch(0, 1, 0)));
            all.add(new Refused("patch(0, 0, 0)", STATE, x -> x.patch(0, 0, 0)));
            all.add(new Refused("patch(-1, 33, 0)", STATE, x -> x.patch(-1, 33, 0)));
            all.add(new Refused("patch(-1, 8, 0)", STATE, x -> x.patch(-1, 8, 0)));
        }
        if (bits > 4752) {
            all.add(new Refused("align()", OPERATION, x -> x.align()));
            all.add(new Refused("put(16, -1)", OPERATION, x -> x.put(16, -1)));
            all.add(new Refused("put(32, -1)", OPERATION, x -> x.put(32, -1)));
        }
    }

    private static void addPatches(List<Refused> all, int bits) {
        for (int width : NO_WIDTHS) {
            for (int place : new int[] {MIN, -1, 0, bits, MAX}) {
                all.add(new Refused("patch(" + place + ", " + width + ", -1)", ARGUMENT,
                        x -> x.patch(place, width, -1)));
            }
        }
        for (int width : new int[] {1, 2, 31, 32}) {
            for (int place : new int[] {MIN, -1, bits - width + 1, bits, MAX - width + 1, MAX}) {
                if (place < 0 || place > bits - width) {
                    all.add(new Refused("patch(" + place + ", " + width + ", 0)", INDEX,
                            x -> x.patch(place, width, 0)));
                }
            }
        }
    }

    private static void addBytes(List<Refused> all, int bits, int came) {
        for (int i : new int[] {MIN, -1, (bits + 7) / 8, 600, MAX}) {
            all.add(new Refused("byteAt(" + i + ")", INDEX, x -> x.byteAt(i)));
        }
        for (int b : NO_BYTES) {
            all.add(new Refused("feed(" + b + ")", ARGUMENT, x -> x.feed(b)));
        }
        if (came == 600) {
            all.add(new Refused("feed(9)", OPERATION, x -> x.feed(9)));
        }
    }

    private static void addPasses(List<Refused> all, int whole, int came) {
        for (int i : new int[] {MIN, -1, whole, MAX}) {
            for (int n : new int[] {MIN, -1, 0, 1, MAX}) {
                all.add(new Refused("pass(" + i + ", " + n + ")", INDEX, x -> x.pass(i, n)));
            }
        }
        if (whole > 0) {
            for (int n : new int[] {MIN, -1}) {
                all.add(new Refused("pass(0, " + n + ")", ARGUMENT, x -> x.pass(0, n)));
                all.add(new Refused("pass(last, " + n + ")", ARGUMENT, x -> x.pass(whole - 1, n)));
            }
        }
        if (whole > 0 && came == 600) {
            all.add(new Refused("pass(0, 1)", OPERATION, x -> x.pass(0, 1)));
            all.add(new Refused("pass(0, MAX)", OPERATION, x -> x.pass(0, MAX)));
        }
    }

    private static void addFinds(List<Refused> all, int came) {
        for (int from : new int[] {MIN, -1, came + 1, MAX}) {
            all.add(new Refused("find(" + from + ")", INDEX, x -> x.find(from)));
        }
    }

    private static void addSums(List<Refused> all, int written, int came) {
        for (int k = 0; k < 2; k++) {
            boolean ofCame = k == 1;
            int end = ofCame ? came : written;
            int[][] ranges = {{-1, end}, {0, end + 1}, {end + 1, end + 1}, {1, 0}, {MIN, MAX}, {MAX, MIN}};
            for (int[] r : ranges) {
                for (int width : new int[] {MIN, 0, 15, 16, 17, 31, 32, 33, MAX}) {
                    all.add(new Refused("sum(" + ofCame + ", " + width + ", " + r[0] + ", " + r[1] + ")",
                            width == 16 || width == 32 ? INDEX : ARGUMENT,
                            x -> x.sum(ofCame, width, r[0], r[1])));
                }
            }
        }
    }
}
