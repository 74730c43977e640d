import java.io.IOException;
import java.io.UncheckedIOException;
import java.math.BigInteger;
import java.nio.file.Files;
import java.nio.file.Path;
import java.util.ArrayList;
import java.util.Arrays;
import java.util.HashSet;
import java.util.List;
import java.util.Set;

/** What the tests of the document's boundaries share. A check that fails tells the sentence that it holds to. */
final class Checks {
    static final Class<? extends RuntimeException> INDEX = IndexOutOfBoundsException.class;
    static final Class<? extends RuntimeException> ARGUMENT = IllegalArgumentException.class;
    static final Class<? extends RuntimeException> STATE = IllegalStateException.class;
    static final Class<? extends RuntimeException> ARITHMETIC = ArithmeticException.class;
    /** What is no number from 0 to 7; some of these have low bits that would be one. */
    static final int[] NOT_TO_SEVEN = {-1, 8, 9, -8, 264, -256, Integer.MIN_VALUE, Integer.MAX_VALUE};
    static final int[] NOT_HALVES = {-2001, 2001, 4000, -4000, 65536, Integer.MIN_VALUE, Integer.MAX_VALUE};
    static final int[][] TRIPLES = {{1, 2, 4}, {2, 3, 5}, {3, 4, 6}, {4, 5, 7}, {5, 6, 1}, {6, 7, 2}, {7, 1, 3}};

    private static final int MOST_SHOWN = 30;
    private static final String SOURCE = source();
    private static String sentence = "";
    private static final Set<String> SENTENCES = new HashSet<>();
    private static int checks = 0;
    private static int wrong = 0;

    private Checks() {
    }

    interface Script {
        void on(OctavianDesk d);
    }

    interface WithNumber {
        void on(OctavianDesk d, int number);
    }

    private static String source() {
        try {
            return Files.readString(Path.of("src/main/java/OctavianDesk.java"));
        } catch (IOException e) {
            throw new UncheckedIOException(e);
        }
    }

    // ---- the sentence, and what is due

    static void sentence(String text) {
        sentence = text;
        SENTENCES.add(text);
    }

    static void end(String name) {
        System.out.println(name + ": " + SENTENCES.size() + " sentences, " + checks + " checks, " + wrong + " wrong");
        if (wrong != 0) {
            System.exit(1);
        }
    }

    private static void fault(String what) {
        wrong++;
        if (wrong <= MOST_SHOWN) {
            System.out.println("[" + sentence + "] " + what);
        }
    }

    static void is(String what, long got, long due) {
        checks++;
        if (got != due) {
            fault(what + " answered " + got + ", due is " + due);
        }
    }

    static void is(String what, boolean got, boolean due) {
        is(what, got ? 1 : 0, due ? 1 : 0);
    }

    static void row(OctavianDesk d, int register, long... due) {
        for (int i = 0; i < 8; i++) {
            is("coordinate(" + register + ", " + i + ") of " + Arrays.toString(due), d.coordinate(register, i), due[i]);
        }
    }

    // ---- rows

    /** All 0 but for one coordinate. */
    static long[] only(int index, long halves) {
        long[] row = new long[8];
        row[index] = halves;
        return row;
    }

    /** Halves at some indices, all others 0. */
    static long[] odd(int set, long halves) {
        long[] row = new long[8];
        for (int i = 0; i < 8; i++) {
            row[i] = (set >> i) % 2 != 0 ? halves : 0;
        }
        return row;
    }

    static long[] with(long[] row, int index, long halves) {
        long[] out = row.clone();
        out[index] = halves;
        return out;
    }

    static long[] plus(long[] a, long[] b) {
        long[] out = new long[8];
        for (int i = 0; i < 8; i++) {
            out[i] = a[i] + b[i];
        }
        return out;
    }

    static long[] negative(long[] a) {
        long[] out = new long[8];
        for (int i = 0; i < 8; i++) {
            out[i] = -a[i];
        }
        return out;
    }

    /** The sign and index of ei ej, as 1 + index with the sign. */
    static int basis(int i, int j) {
        if (i == 0 || j == 0) {
            return i + j + 1;
        }
        if (i == j) {
            return -1;
        }
        for (int[] t : TRIPLES) {
            for (int turn = 0; turn < 3; turn++) {
                if (t[turn] == i && t[(turn + 1) % 3] == j) {
                    return t[(turn + 2) % 3] + 1;
                }
                if (t[turn] == j && t[(turn + 1) % 3] == i) {
                    return -t[(turn + 2) % 3] - 1;
                }
            }
        }
        throw new AssertionError("the triples do not tell e" + i + " e" + j);
    }

    /** In quarters, of rows in halves. */
    static long[] product(long[] a, long[] b) {
        long[] out = new long[8];
        for (int i = 0; i < 8; i++) {
            for (int j = 0; j < 8; j++) {
                int sign = basis(i, j);
                out[Math.abs(sign) - 1] += (sign < 0 ? -1 : 1) * a[i] * b[j];
            }
        }
        return out;
    }

    static long[] halved(long[] row) {
        long[] out = new long[8];
        for (int i = 0; i < 8; i++) {
            if (row[i] % 2 != 0) {
                throw new AssertionError("not to be halved: " + Arrays.toString(row));
            }
            out[i] = row[i] / 2;
        }
        return out;
    }

    static long square(long[] row) {
        long sum = 0;
        for (long x : row) {
            sum += x * x;
        }
        return sum;
    }

    /** Whether an order has the octonions whose coordinates are not whole just at a set of indices. */
    static boolean isInOrder(int odd, int order) {
        if (order == 0) {
            return odd == 0;
        }
        int zero = odd & 1;
        int other = (odd >> order) & 1;
        int set = (odd & ~1 & ~(1 << order)) | other | (zero << order);
        if (set == 0 || set == 255) {
            return true;
        }
        for (int[] t : TRIPLES) {
            int four = 1 | 1 << t[0] | 1 << t[1] | 1 << t[2];
            if (set == four || set == 255 - four) {
                return true;
            }
        }
        return false;
    }

    /** By trying all rows from the lowest one on. */
    static List<long[]> unitsOf(int order) {
        List<long[]> units = new ArrayList<>();
        for (int code = 0; code < 390625; code++) {
            long[] row = new long[8];
            int rest = code;
            int odd = 0;
            for (int i = 7; i >= 0; i--) {
                row[i] = rest % 5 - 2;
                odd += row[i] % 2 != 0 ? 1 << i : 0;
                rest /= 5;
            }
            if (square(row) == 4 && isInOrder(odd, order)) {
                units.add(row);
            }
        }
        return units;
    }

    // ---- desks

    static OctavianDesk desk(Script prepare) {
        OctavianDesk d = new OctavianDesk();
        prepare.on(d);
        return d;
    }

    static void put(OctavianDesk d, int register, long... h) {
        d.setFour(register, false, (int) h[0], (int) h[1], (int) h[2], (int) h[3]);
        d.setFour(register, true, (int) h[4], (int) h[5], (int) h[6], (int) h[7]);
    }

    static void write(OctavianDesk d, String text) {
        d.clearText();
        for (int i = 0; i < text.length(); i++) {
            d.append(text.charAt(i));
        }
    }

    static int carry(OctavianDesk d, String text) {
        write(d, text);
        return d.carryOut();
    }

    /** The values and all coordinates. */
    static long[] look(OctavianDesk d) {
        long[] seen = new long[70];
        for (int what = 0; what < 6; what++) {
            seen[what] = d.value(what);
        }
        for (int r = 0; r < 8; r++) {
            for (int i = 0; i < 8; i++) {
                seen[6 + 8 * r + i] = d.coordinate(r, i);
            }
        }
        return seen;
    }

    static void same(String what, long[] got, long[] due) {
        checks++;
        if (!Arrays.equals(got, due)) {
            fault(what + ": " + Arrays.toString(got) + ", due is " + Arrays.toString(due));
        }
    }

    /** All that a desk holds, what undo() would bring back and what the text does too; the desk is used up by it. */
    private static long[] tell(OctavianDesk d) {
        List<Long> told = new ArrayList<>();
        for (long x : look(d)) {
            told.add(x);
        }
        told.add(d.digest());
        while (thrownBy(d, x -> told.add((long) x.undo())) == null) {
            told.add(d.digest());
        }
        told.add((long) d.carryOut());
        for (long x : look(d)) {
            told.add(x);
        }
        told.add((long) d.clearText());
        return told.stream().mapToLong(Long::longValue).toArray();
    }

    static Class<?> thrownBy(OctavianDesk d, Script call) {
        try {
            call.on(d);
        } catch (RuntimeException e) {
            // The machine may throw an ArithmeticException too; the texts of the program's own ones stand in the source.
            if (!SOURCE.contains("throw new " + e.getClass().getSimpleName() + "(\"" + e.getMessage() + "\");")) {
                fault("not thrown by the program itself: " + e);
            }
            return e.getClass();
        }
        return null;
    }

    /** Prepared, and then with some more saved states that differ from each other; the last one leaves all as it was. */
    private static OctavianDesk prepared(Script prepare, int saves) {
        OctavianDesk d = desk(prepare);
        int kept = d.coordinate(7, 6);
        for (int n = 1; n <= saves; n++) {
            d.set(7, 6, n == saves ? kept : 10 * n);
        }
        return d;
    }

    private static final int[] SAVES = {0, 1, 3, 4, 5};

    /** The call throws just this; a desk that was asked for it is, all its saved states included, as one that was not. */
    static void refused(Class<?> due, Script prepare, Script call) {
        for (int saves : SAVES) {
            refusedAfter(saves, due, prepare, call);
        }
    }

    static void refusedAfter(int saves, Class<?> due, Script prepare, Script call) {
        OctavianDesk asked = prepared(prepare, saves);
        Class<?> got = thrownBy(asked, call);
        checks++;
        if (got != due) {
            fault("threw " + got + ", due is " + due);
        }
        same("a desk after a refused call", tell(asked), tell(prepared(prepare, saves)));
    }

    static void allowed(Script prepare, Script call) {
        Class<?> got = thrownBy(desk(prepare), call);
        checks++;
        if (got != null) {
            fault("threw " + got + ", but is allowed");
        }
    }

    /** The call is no undoable one: it saves no state, and changes nothing. */
    static void quiet(Script prepare, Script call) {
        for (int saves : SAVES) {
            OctavianDesk asked = prepared(prepare, saves);
            call.on(asked);
            same("a desk after a call that changes nothing", tell(asked), tell(prepared(prepare, saves)));
        }
    }

    /** The call saves just one state, the one from before it, and drops just the oldest of more than 4. */
    static void undoable(Script prepare, Script call) {
        for (int saves : SAVES) {
            OctavianDesk d = new OctavianDesk();
            prepare.on(d);
            int already = savedStates(desk(prepare));
            long[] states = new long[saves + 1];
            for (int n = 0; n < saves; n++) {
                states[n] = state(d, already + n);
                d.set(7, 6, 10 * n + 10);
            }
            states[saves] = state(d, already + saves);
            long[] before = look(d);
            call.on(d);
            for (int n = saves; n >= 0 && n > saves - 4; n--) {
                int left = Math.min(already + saves + 1, 4) - 1 - (saves - n);
                is("undo()", d.undo(), left);
                is("the state restored by undo() " + (saves - n + 1), d.digest() - left, states[n]);
                if (n == saves) {
                    same("the state from before the call", look(d), before);
                }
            }
            if (saves >= 4 || already == 0) {
                is("no saved state is left", thrownBy(d, x -> x.undo()) == STATE, true);
            }
        }
    }

    /** The digest without the number of saved states, which it adds last of all. */
    private static long state(OctavianDesk d, int saved) {
        return d.digest() - Math.min(saved, 4);
    }

    /** The desk is used up by it. */
    static int savedStates(OctavianDesk d) {
        int n = 0;
        while (thrownBy(d, x -> x.undo()) == null) {
            n++;
        }
        return n;
    }

    /** Each number from 0 to 7 is allowed, and no other one. */
    static void toSeven(Class<?> due, Script prepare, WithNumber call) {
        for (int n = 0; n < 8; n++) {
            int number = n;
            allowed(prepare, d -> call.on(d, number));
        }
        for (int number : NOT_TO_SEVEN) {
            refused(due, prepare, d -> call.on(d, number));
        }
    }

    /** The hash of some values as the document tells it, worked out without a wrap-around until the end. */
    static long hash(List<Long> values) {
        BigInteger h = BigInteger.valueOf(3761);
        for (long v : values) {
            h = h.multiply(BigInteger.valueOf(31)).add(BigInteger.valueOf(v));
        }
        return h.longValue();
    }
}
