import java.math.BigInteger;
import java.util.ArrayDeque;
import java.util.ArrayList;
import java.util.Arrays;
import java.util.List;
import java.util.TreeMap;
import java.util.regex.Pattern;

/**
 * Compares the desk, call by call, with a plain model that reads the document as literally as it can:
 * products by a table of basis elements, orders by sets of indices, units by trying all rows, quotients by trying
 * all near rows, dimensions by Gauss, counts by multiplying series, texts by patterns.
 */
public final class ModelTest {
    private static long seed = 20261119L;
    private static long wrong = 0;
    private static final TreeMap<String, Integer> SEEN = new TreeMap<>();

    public static void main(String[] args) {
        for (int run = 1; run <= 600; run++) {
            compareRun(run);
        }
        compareElements();
        compareSyntax();
        needSeen();
        System.out.println(wrong == 0 ? "the model agrees" : wrong + " answers differ");
        if (wrong != 0) {
            System.exit(1);
        }
    }

    // ---- numbers that are the same in each run

    private static int below(int bound) {
        seed = seed * 6364136223846793005L + 1442695040888963407L;
        return (int) Long.remainderUnsigned(seed >>> 24, bound);
    }

    private static int from(int low, int high) {
        return low + below(high - low + 1);
    }

    // ---- octonions

    private static final int[][] TRIPLES = {{1, 2, 4}, {2, 3, 5}, {3, 4, 6}, {4, 5, 7}, {5, 6, 1}, {6, 7, 2}, {7, 1, 3}};
    /** BASIS[i][j] has the sign and 1 + the index of ei ej. */
    private static final int[][] BASIS = basis();

    private static int[][] basis() {
        int[][] t = new int[8][8];
        for (int i = 0; i < 8; i++) {
            t[0][i] = i + 1;
            t[i][0] = i + 1;
        }
        for (int i = 1; i < 8; i++) {
            t[i][i] = -1;
        }
        for (int[] x : TRIPLES) {
            int i = x[0];
            int j = x[1];
            int k = x[2];
            t[i][j] = k + 1;
            t[j][k] = i + 1;
            t[k][i] = j + 1;
            t[j][i] = -(k + 1);
            t[k][j] = -(i + 1);
            t[i][k] = -(j + 1);
        }
        return t;
    }

    private static long[] times(long[] a, long[] b) {
        long[] out = new long[8];
        for (int i = 0; i < 8; i++) {
            for (int j = 0; j < 8; j++) {
                int t = BASIS[i][j];
                out[Math.abs(t) - 1] += (t < 0 ? -1 : 1) * a[i] * b[j];
            }
        }
        return out;
    }

    private static long[] plus(long[] a, long[] b, int sign) {
        long[] out = new long[8];
        for (int i = 0; i < 8; i++) {
            out[i] = a[i] + sign * b[i];
        }
        return out;
    }

    private static long[] conj(long[] a) {
        long[] out = a.clone();
        for (int i = 1; i < 8; i++) {
            out[i] = -out[i];
        }
        return out;
    }

    private static long dotOf(long[] a, long[] b) {
        long sum = 0;
        for (int i = 0; i < 8; i++) {
            sum += a[i] * b[i];
        }
        return sum;
    }

    /** The row in halves, of a row in parts of a half; null if a register can't hold it. */
    private static long[] fitting(long[] row, int parts) {
        long[] out = new long[8];
        for (int i = 0; i < 8; i++) {
            if (row[i] % parts != 0 || Math.abs(row[i] / parts) > 2000) {
                return null;
            }
            out[i] = row[i] / parts;
        }
        return out;
    }

    // ---- orders and units

    private static boolean inOrder(long[] row, int order) {
        boolean[] odd = new boolean[8];
        int count = 0;
        for (int i = 0; i < 8; i++) {
            odd[i] = row[i] % 2 != 0;
            count += odd[i] ? 1 : 0;
        }
        if (order == 0) {
            return count == 0;
        }
        boolean zero = odd[0];
        odd[0] = odd[order];
        odd[order] = zero;
        if (count == 0 || count == 8) {
            return true;
        }
        for (int[] t : TRIPLES) {
            boolean[] set = new boolean[8];
            set[0] = true;
            for (int i : t) {
                set[i] = true;
            }
            boolean same = true;
            boolean opposite = true;
            for (int i = 0; i < 8; i++) {
                same &= odd[i] == set[i];
                opposite &= odd[i] != set[i];
            }
            if (same || opposite) {
                return true;
            }
        }
        return false;
    }

    private static final List<List<long[]>> UNITS = allUnits();

    private static List<List<long[]>> allUnits() {
        List<List<long[]>> all = new ArrayList<>();
        for (int n = 0; n < 8; n++) {
            all.add(new ArrayList<>());
        }
        for (int code = 0; code < 390625; code++) {
            long[] row = new long[8];
            int rest = code;
            for (int i = 7; i >= 0; i--) {
                row[i] = rest % 5 - 2;
                rest /= 5;
            }
            if (dotOf(row, row) == 4) {
                for (int n = 0; n < 8; n++) {
                    if (inOrder(row, n)) {
                        all.get(n).add(row);
                    }
                }
            }
        }
        return all;
    }

    private static int unitNumber(long[] row, int order) {
        for (int u = 0; u < UNITS.get(order).size(); u++) {
            if (Arrays.equals(UNITS.get(order).get(u), row)) {
                return u;
            }
        }
        return -1;
    }

    // ---- division: all rows that may be near are tried, in the order of the rows

    private static long[] best;
    private static long bestFar;

    private static long[] quotientOf(long[] a, long[] b, int order) {
        long[] sought = times(a, conj(b));
        long norm = dotOf(b, b);
        best = null;
        // No octonion is further from an order 1 to 7 than the root of a half, from the order 0 than that of 2.
        bestFar = (order == 0 ? 8 : 2) * norm * norm;
        tryRows(sought, norm, order, new long[8], 0, 0);
        return best;
    }

    private static void tryRows(long[] sought, long norm, int order, long[] row, int i, long far) {
        if (i == 8) {
            if (inOrder(row, order) && (best == null || far < bestFar)) {
                best = row.clone();
                bestFar = far;
            }
            return;
        }
        long about = Math.floorDiv(2 * sought[i], norm);
        for (long h = about - 3; h <= about + 3; h++) {
            long off = norm * h - 2 * sought[i];
            if (far + off * off <= bestFar && (order != 0 || h % 2 == 0)) {
                row[i] = h;
                tryRows(sought, norm, order, row, i + 1, far + off * off);
            }
        }
    }

    private static long[] remainderOf(long[] a, long[] b, long[] q) {
        long[] product = times(q, b);
        long[] out = new long[8];
        for (int i = 0; i < 8; i++) {
            if (product[i] % 2 != 0) {
                throw new AssertionError("the order is not closed");
            }
            out[i] = a[i] - product[i] / 2;
        }
        return out;
    }

    /** The number of divisions and the last divisor's norm; both -1 beyond 40. */
    private static long[] euclid(long[] a, long[] b, int order) {
        long[] x = a;
        long[] y = b;
        for (int n = 1; n <= 40; n++) {
            long[] r = remainderOf(x, y, quotientOf(x, y, order));
            if (dotOf(r, r) == 0) {
                return new long[] {n, dotOf(y, y)};
            }
            x = y;
            y = r;
        }
        return new long[] {-1, -1};
    }

    // ---- dimensions

    private static int dimensionOf(List<long[]> rows) {
        List<BigInteger[]> span = new ArrayList<>();
        addToSpan(span, big(new long[] {1, 0, 0, 0, 0, 0, 0, 0}));
        for (long[] row : rows) {
            addToSpan(span, big(row));
        }
        for (int before = 0; before < span.size();) {
            before = span.size();
            for (int i = 0; i < before; i++) {
                for (int j = 0; j < before; j++) {
                    addToSpan(span, bigTimes(span.get(i), span.get(j)));
                }
            }
        }
        return span.size();
    }

    private static BigInteger[] big(long[] row) {
        BigInteger[] out = new BigInteger[8];
        for (int i = 0; i < 8; i++) {
            out[i] = BigInteger.valueOf(row[i]);
        }
        return out;
    }

    private static BigInteger[] bigTimes(BigInteger[] a, BigInteger[] b) {
        BigInteger[] out = big(new long[8]);
        for (int i = 0; i < 8; i++) {
            for (int j = 0; j < 8; j++) {
                int t = BASIS[i][j];
                BigInteger p = a[i].multiply(b[j]);
                out[Math.abs(t) - 1] = out[Math.abs(t) - 1].add(t < 0 ? p.negate() : p);
            }
        }
        return out;
    }

    private static int lead(BigInteger[] row) {
        for (int i = 0; i < 8; i++) {
            if (row[i].signum() != 0) {
                return i;
            }
        }
        return 8;
    }

    private static void addToSpan(List<BigInteger[]> span, BigInteger[] candidate) {
        BigInteger[] row = candidate.clone();
        for (int round = 0; round < 8; round++) {
            for (BigInteger[] s : span) {
                int at = lead(s);
                BigInteger f = row[at];
                if (f.signum() != 0) {
                    for (int i = 0; i < 8; i++) {
                        row[i] = row[i].multiply(s[at]).subtract(s[i].multiply(f));
                    }
                }
            }
        }
        if (lead(row) < 8) {
            BigInteger gcd = BigInteger.ZERO;
            for (BigInteger x : row) {
                gcd = gcd.gcd(x);
            }
            for (int i = 0; i < 8; i++) {
                row[i] = row[i].divide(gcd);
            }
            span.add(row);
        }
    }

    // ---- texts

    private static final String FACTOR = "[1-9]?[a-h]'*";
    private static final String SUM = FACTOR + "([-+*]" + FACTOR + ")*";
    private static final Pattern IN_BRACKETS = Pattern.compile("\\(" + SUM + "\\)");
    private static final Pattern ASSIGNMENTS = Pattern.compile("([a-h]=" + SUM + ";)*");

    private static boolean isText(String text) {
        int deep = 0;
        for (char c : text.toCharArray()) {
            deep += c == '(' ? 1 : c == ')' ? -1 : 0;
            if (deep > 6) {
                return false;
            }
        }
        String rest = "";
        for (String next = text; !next.equals(rest);) {
            rest = next;
            next = IN_BRACKETS.matcher(rest).replaceAll("a");
        }
        return ASSIGNMENTS.matcher(rest).matches();
    }

    private static boolean canGoOn(String start) {
        for (String middle : new String[] {"", "a", "=a"}) {
            String brackets = "";
            for (int n = 0; n <= 6; n++) {
                if (isText(start + middle + brackets + ";")) {
                    return true;
                }
                brackets += ")";
            }
        }
        return isText(start);
    }

    private static int syntaxErrorOf(String text) {
        if (isText(text)) {
            return -1;
        }
        for (int i = 0; i < text.length(); i++) {
            if (!canGoOn(text.substring(0, i + 1))) {
                return i;
            }
        }
        return text.length();
    }

    /** Works out a sum by its last sign outside of brackets; null if something does not fit on the way. */
    private static long[] worked(String sum, Model m, int[] stars) {
        int at = lastOutside(sum, "+-");
        if (at >= 0) {
            long[] a = worked(sum.substring(0, at), m, stars);
            long[] b = worked(sum.substring(at + 1), m, stars);
            return a == null || b == null ? null : fitting(plus(a, b, sum.charAt(at) == '-' ? -1 : 1), 1);
        }
        at = lastOutside(sum, "*");
        if (at >= 0) {
            long[] a = worked(sum.substring(0, at), m, stars);
            long[] b = worked(sum.substring(at + 1), m, stars);
            stars[0]++;
            return a == null || b == null ? null : fitting(times(a, b), 2);
        }
        if (Character.isDigit(sum.charAt(0))) {
            long[] a = worked(sum.substring(1), m, stars);
            int n = sum.charAt(0) - '0';
            long[] out = new long[8];
            for (int i = 0; a != null && i < 8; i++) {
                out[i] = n * a[i];
            }
            return a == null ? null : fitting(out, 1);
        }
        if (sum.endsWith("'")) {
            long[] a = worked(sum.substring(0, sum.length() - 1), m, stars);
            return a == null ? null : conj(a);
        }
        return sum.charAt(0) == '(' ? worked(sum.substring(1, sum.length() - 1), m, stars) : m.rows[sum.charAt(0) - 'a'];
    }

    private static int lastOutside(String sum, String signs) {
        int deep = 0;
        int found = -1;
        for (int i = 0; i < sum.length(); i++) {
            char c = sum.charAt(i);
            deep += c == '(' ? 1 : c == ')' ? -1 : 0;
            found = deep == 0 && signs.indexOf(c) >= 0 ? i : found;
        }
        return found;
    }

    // ---- the model of a desk

    private static final class Saved {
        long[][] rows;
        int order;
        int multiplications;
        int divisions;
    }

    private static final class Model {
        long[][] rows = new long[8][8];
        int order = 1;
        int multiplications = 0;
        int divisions = 0;
        String text = "";
        ArrayDeque<Saved> saved = new ArrayDeque<>();

        Model() {
            for (int r = 0; r < 8; r++) {
                rows[r][r] = 2;
            }
        }

        void save() {
            Saved s = new Saved();
            s.rows = new long[8][];
            for (int r = 0; r < 8; r++) {
                s.rows[r] = rows[r].clone();
            }
            s.order = order;
            s.multiplications = multiplications;
            s.divisions = divisions;
            saved.addLast(s);
            if (saved.size() > 4) {
                saved.removeFirst();
            }
        }

        int undo() {
            if (saved.isEmpty()) {
                throw new IllegalStateException();
            }
            Saved s = saved.removeLast();
            rows = s.rows;
            order = s.order;
            multiplications = s.multiplications;
            divisions = s.divisions;
            return saved.size();
        }

        void register(int... numbers) {
            for (int r : numbers) {
                if (r < 0 || r > 7) {
                    throw new IndexOutOfBoundsException();
                }
            }
        }

        void halves(int... numbers) {
            for (int h : numbers) {
                if (h < -2000 || h > 2000) {
                    throw new IllegalArgumentException();
                }
            }
        }

        long into(int to, long[] row) {
            if (row == null) {
                throw new ArithmeticException();
            }
            save();
            rows[to] = row;
            return dotOf(row, row);
        }

        void divisible(int a, int b) {
            if (!inOrder(rows[a], order) || !inOrder(rows[b], order) || dotOf(rows[b], rows[b]) == 0) {
                throw new IllegalStateException();
            }
        }

        long divide(int a, int b, int q, int r) {
            register(a, b, q, r);
            if (q == r) {
                throw new IllegalArgumentException();
            }
            divisible(a, b);
            long[] quotient = quotientOf(rows[a], rows[b], order);
            long[] remainder = remainderOf(rows[a], rows[b], quotient);
            if (fitting(quotient, 1) == null) {
                throw new ArithmeticException();
            }
            long norm = into(r, fitting(remainder, 1));
            rows[q] = quotient;
            divisions++;
            return norm;
        }

        long[] associatorOf(int a, int b, int c) {
            return plus(times(times(rows[a], rows[b]), rows[c]), times(rows[a], times(rows[b], rows[c])), -1);
        }

        int ordersOf(int r) {
            int set = 0;
            for (int n = 0; n < 8; n++) {
                set += inOrder(rows[r], n) ? 1 << n : 0;
            }
            return set;
        }

        int value(int what) {
            int in = 0;
            int zero = 0;
            for (long[] row : rows) {
                in += inOrder(row, order) ? 1 : 0;
                zero += dotOf(row, row) == 0 ? 1 : 0;
            }
            if (what < 0 || what > 5) {
                throw new IllegalArgumentException();
            }
            return new int[] {order, UNITS.get(order).size(), multiplications, divisions, in, zero}[what];
        }

        int commuting(int r) {
            int n = 0;
            for (long[] u : UNITS.get(order)) {
                n += Arrays.equals(times(u, rows[r]), times(rows[r], u)) ? 1 : 0;
            }
            return n;
        }

        int carryOut() {
            int error = syntaxErrorOf(text);
            if (error >= 0) {
                return -10 - error;
            }
            save();
            int done = 0;
            for (String assignment : text.isEmpty() ? new String[0] : text.split(";")) {
                int[] stars = new int[1];
                long[] row = worked(assignment.substring(2), this, stars);
                if (row == null) {
                    return done;
                }
                rows[assignment.charAt(0) - 'a'] = row.clone();
                multiplications += stars[0];
                done++;
            }
            return done;
        }

        long digest() {
            long h = 3761;
            h = 31 * h + text.length();
            for (int what = 0; what <= 5; what++) {
                h = 31 * h + value(what);
            }
            for (int r = 0; r < 8; r++) {
                for (long x : rows[r]) {
                    h = 31 * h + x;
                }
                h = 31 * h + ordersOf(r);
                h = 31 * h + unitNumber(rows[r], order);
            }
            return 31 * h + saved.size();
        }

        long answer(String name, int[] x) {
            switch (name) {
                case "set": {
                    register(x[0], x[1]);
                    halves(x[2]);
                    save();
                    long before = rows[x[0]][x[1]];
                    rows[x[0]][x[1]] = x[2];
                    return before;
                }
                case "setFour": {
                    register(x[0]);
                    halves(x[2], x[3], x[4], x[5]);
                    save();
                    for (int i = 0; i < 4; i++) {
                        rows[x[0]][(x[1] == 1 ? 4 : 0) + i] = x[2 + i];
                    }
                    return dotOf(rows[x[0]], rows[x[0]]);
                }
                case "setOrder": {
                    if (x[0] < 0 || x[0] > 7) {
                        throw new IllegalArgumentException();
                    }
                    save();
                    int before = order;
                    order = x[0];
                    return before;
                }
                case "load":
                    register(x[1]);
                    if (x[0] < 0 || x[0] >= UNITS.get(order).size()) {
                        throw new IndexOutOfBoundsException();
                    }
                    into(x[1], UNITS.get(order).get(x[0]).clone());
                    return rows[x[1]][0];
                case "add":
                    register(x[0], x[1], x[2]);
                    return into(x[2], fitting(plus(rows[x[0]], rows[x[1]], x[3] == 1 ? -1 : 1), 1));
                case "multiply": {
                    register(x[0], x[1], x[2]);
                    long norm = into(x[2], fitting(times(rows[x[0]], rows[x[1]]), 2));
                    multiplications++;
                    return norm;
                }
                case "conjugate":
                    register(x[0]);
                    into(x[0], conj(rows[x[0]]));
                    return rows[x[0]][0];
                case "commutator":
                    register(x[0], x[1], x[2]);
                    return into(x[2], fitting(plus(times(rows[x[0]], rows[x[1]]), times(rows[x[1]], rows[x[0]]), -1), 2));
                case "associator":
                    register(x[0], x[1], x[2], x[3]);
                    return into(x[3], fitting(associatorOf(x[0], x[1], x[2]), 4));
                case "divide":
                    return divide(x[0], x[1], x[2], x[3]);
                default:
                    return told(name, x);
            }
        }

        long told(String name, int[] x) {
            switch (name) {
                case "coordinate":
                    register(x[0], x[1]);
                    return rows[x[0]][x[1]];
                case "norm":
                    register(x[0]);
                    return dotOf(rows[x[0]], rows[x[0]]);
                case "dot":
                    register(x[0], x[1]);
                    return dotOf(rows[x[0]], rows[x[1]]);
                case "ordersOf":
                    register(x[0]);
                    return ordersOf(x[0]);
                case "left": {
                    register(x[0], x[1], x[2]);
                    long[] e = new long[8];
                    e[x[2]] = 2;
                    return times(rows[x[0]], e)[x[1]] / 2;
                }
                case "unitOf":
                    register(x[0]);
                    return unitNumber(rows[x[0]], order);
                case "value":
                    return value(x[0]);
                case "dimension": {
                    if (x[0] < 1 || x[0] > 255) {
                        throw new IllegalArgumentException();
                    }
                    List<long[]> some = new ArrayList<>();
                    for (int r = 0; r < 8; r++) {
                        if ((x[0] >> r) % 2 == 1) {
                            some.add(rows[r]);
                        }
                    }
                    return dimensionOf(some);
                }
                case "commute":
                    register(x[0], x[1]);
                    return Arrays.equals(times(rows[x[0]], rows[x[1]]), times(rows[x[1]], rows[x[0]])) ? 1 : 0;
                case "associate":
                    register(x[0], x[1], x[2]);
                    return Arrays.equals(associatorOf(x[0], x[1], x[2]), new long[8]) ? 1 : 0;
                case "steps":
                    register(x[0], x[1]);
                    divisible(x[0], x[1]);
                    return euclid(rows[x[0]], rows[x[1]], order)[0];
                case "lastNorm":
                    register(x[0], x[1]);
                    divisible(x[0], x[1]);
                    return euclid(rows[x[0]], rows[x[1]], order)[1];
                case "commuting":
                    register(x[0]);
                    return commuting(x[0]);
                case "append":
                    if (x[0] < 0 || x[0] > 127) {
                        throw new IllegalArgumentException();
                    }
                    if (text.length() == 100) {
                        throw new IllegalStateException();
                    }
                    text += (char) x[0];
                    return text.length();
                case "clearText": {
                    int before = text.length();
                    text = "";
                    return before;
                }
                case "carryOut":
                    return carryOut();
                case "undo":
                    return undo();
                default:
                    return digest();
            }
        }
    }

    // ---- the desk by names

    private static long ask(OctavianDesk d, String name, int[] x) {
        switch (name) {
            case "set": return d.set(x[0], x[1], x[2]);
            case "setFour": return d.setFour(x[0], x[1] == 1, x[2], x[3], x[4], x[5]);
            case "setOrder": return d.setOrder(x[0]);
            case "load": return d.load(x[0], x[1]);
            case "add": return d.add(x[0], x[1], x[2], x[3] == 1);
            case "multiply": return d.multiply(x[0], x[1], x[2]);
            case "conjugate": return d.conjugate(x[0]);
            case "commutator": return d.commutator(x[0], x[1], x[2]);
            case "associator": return d.associator(x[0], x[1], x[2], x[3]);
            case "divide": return d.divide(x[0], x[1], x[2], x[3]);
            case "coordinate": return d.coordinate(x[0], x[1]);
            case "norm": return d.norm(x[0]);
            case "dot": return d.dot(x[0], x[1]);
            case "ordersOf": return d.ordersOf(x[0]);
            case "left": return d.left(x[0], x[1], x[2]);
            case "unitOf": return d.unitOf(x[0]);
            case "value": return d.value(x[0]);
            case "dimension": return d.dimension(x[0]);
            case "commute": return d.commute(x[0], x[1]) ? 1 : 0;
            case "associate": return d.associate(x[0], x[1], x[2]) ? 1 : 0;
            case "steps": return d.steps(x[0], x[1]);
            case "lastNorm": return d.lastNorm(x[0], x[1]);
            case "commuting": return d.commuting(x[0]);
            case "append": return d.append(x[0]);
            case "clearText": return d.clearText();
            case "carryOut": return d.carryOut();
            case "undo": return d.undo();
            default: return d.digest();
        }
    }

    private static String told(RuntimeException e) {
        return "throws." + e.getClass().getSimpleName();
    }

    private static void compare(OctavianDesk desk, Model model, String name, int[] x, List<String> calls) {
        String due;
        String got;
        try {
            due = "" + model.answer(name, x);
        } catch (RuntimeException e) {
            due = told(e);
        }
        try {
            got = "" + ask(desk, name, x);
        } catch (RuntimeException e) {
            got = told(e);
        }
        String kind = name + (due.startsWith("throws") ? " " + due : due.equals("-1") ? " -1" : "");
        SEEN.merge(kind, 1, Integer::sum);
        calls.add(name + Arrays.toString(x) + " " + due);
        if (!got.equals(due)) {
            wrong++;
            System.out.println(calls + " answered " + got);
        } else if (desk.digest() != model.digest()) {
            wrong++;
            System.out.println(calls + " left another state");
        }
        if (wrong > 3) {
            System.exit(1);
        }
    }

    // ---- runs

    private static int someRegister() {
        return below(60) == 0 ? new int[] {-1, 8, Integer.MIN_VALUE, Integer.MAX_VALUE}[below(4)] : below(8);
    }

    private static int someHalves() {
        switch (below(14)) {
            case 0: return from(-2002, 2002);
            case 1: return new int[] {-2001, -2000, 2000, 2001, Integer.MIN_VALUE, Integer.MAX_VALUE}[below(6)];
            case 2: return from(-100, 100);
            case 3: return 2 * from(-50, 50);
            case 4: return 0;
            case 5: return someEven();
            case 6: case 7: return 2 * from(-2, 2);
            default: return from(-3, 3);
        }
    }

    private static int someEven() {
        return 2 * from(-1000, 1000);
    }

    private static String someFactor(int deep) {
        String s = below(4) == 0 ? "" + from(1, 9) : "";
        s += deep < 7 && below(4) == 0 ? "(" + someSum(deep + 1) + ")" : "" + (char) ('a' + below(8));
        while (below(4) == 0) {
            s += "'";
        }
        return s;
    }

    private static String someSum(int deep) {
        String s = someFactor(deep);
        while (below(3) == 0) {
            s += "+-**".charAt(below(4)) + someFactor(deep);
        }
        return s;
    }

    private static String someText() {
        String s = "";
        for (int n = below(6); n > 0; n--) {
            s += (char) ('a' + below(8)) + "=" + someSum(0) + ";";
        }
        s = s.length() > 100 ? s.substring(0, below(101)) : s;
        if (!s.isEmpty() && below(4) == 0) {
            int at = below(s.length());
            String other = "abhi123090()'''+-*/;;== \0\u007f".substring(below(20));
            s = s.substring(0, at) + other.charAt(0) + s.substring(at + (below(2) == 0 ? 1 : 0));
        }
        return s.length() > 100 ? s.substring(0, 100) : s;
    }

    private static final String[] CALLS = {"set", "set", "setFour", "setFour", "setFour", "setOrder", "load", "load", "load",
        "add", "add", "add", "multiply", "multiply", "conjugate", "commutator", "commutator", "associator", "associator",
        "divide", "divide", "divide", "coordinate", "norm", "dot", "ordersOf", "left", "unitOf", "value", "dimension",
        "dimension", "commute", "associate", "steps", "lastNorm", "commuting", "append", "clearText", "carryOut", "undo",
        "undo", "digest", "text", "text", "text", "whole", "powers"};

    private static int[] argumentsOf(String name) {
        int[] x = {someRegister(), someRegister(), someRegister(), someRegister(), 0, 0};
        switch (name) {
            case "set":
                x[2] = someHalves();
                break;
            case "setFour":
                x[1] = below(2);
                for (int i = 2; i < 6; i++) {
                    x[i] = someHalves();
                }
                break;
            case "load":
                x[0] = below(12) == 0 ? new int[] {-1, 15, 16, 239, 240, Integer.MAX_VALUE}[below(6)] : below(240);
                break;
            case "add":
                x[3] = below(2);
                break;
            case "value":
                x[0] = from(-1, 6);
                break;
            case "dimension":
                x[0] = below(20) == 0 ? new int[] {0, 256, -1}[below(3)] : below(2) == 0 ? from(1, 255) : 1 << below(8) | 1 << below(8);
                break;
            case "append":
                x[0] = below(6) == 0 ? new int[] {-1, 128, Integer.MIN_VALUE}[below(3)] : below(128);
                break;
            default:
                break;
        }
        return x;
    }

    private static void compareRun(int run) {
        OctavianDesk desk = new OctavianDesk();
        Model model = new Model();
        List<String> calls = new ArrayList<>();
        // A desk is good for 512 calls: each comparison takes two, and a text takes one a byte.
        while (2 * calls.size() < 400) {
            String name = CALLS[below(CALLS.length)];
            if (name.equals("text")) {
                compare(desk, model, "clearText", new int[0], calls);
                String text = someText();
                for (int i = 0; i < text.length(); i++) {
                    model.answer("append", new int[] {text.charAt(i)});
                    calls.add("" + desk.append(text.charAt(i)));
                }
                calls.add(text);
                compare(desk, model, "carryOut", new int[0], calls);
            } else if (name.equals("powers")) {
                comparePowers(desk, model, calls);
            } else if (name.equals("whole")) {
                // Rows of even halves are in every order, and large ones make long divisions.
                int to = below(8);
                int size = new int[] {3, 30, 1000, 1}[below(4)];
                int scale = size == 1 ? 2000 : 2;
                for (int upper = 0; upper < 2; upper++) {
                    int[] x = {to, upper, 0, 0, 0, 0};
                    for (int i = 2; i < 6; i++) {
                        x[i] = below(size == 1 ? 3 : 50) == 0 ? someEven() : scale * from(-size, size);
                    }
                    compare(desk, model, "setFour", x, calls);
                }
            } else {
                compare(desk, model, name, argumentsOf(name), calls);
            }
        }
    }

    /** Sums of squares of high powers of 2 can wrap round to 0, which no answer may show. */
    private static void comparePowers(OctavianDesk desk, Model model, List<String> calls) {
        int power = 1 << from(7, 10);
        for (int to = 0; to < 3; to++) {
            for (int upper = 0; upper < 2; upper++) {
                int[] x = {to, upper, 0, 0, 0, 0};
                for (int i = 2; i < 6; i++) {
                    x[i] = below(3) == 0 ? power * from(-1, 1) : 0;
                }
                compare(desk, model, "setFour", x, calls);
            }
        }
        compare(desk, model, "associate", new int[] {0, 1, 2}, calls);
        compare(desk, model, "dimension", new int[] {7}, calls);
        compare(desk, model, "associator", new int[] {0, 1, 2, 3}, calls);
        compare(desk, model, "commutator", new int[] {0, 1, 4}, calls);
        compare(desk, model, "commute", new int[] {0, 1}, calls);
        compare(desk, model, "commuting", new int[] {0}, calls);
        compare(desk, model, "steps", new int[] {0, 1}, calls);
        compare(desk, model, "lastNorm", new int[] {1, 2}, calls);
    }

    // ---- the counts of elements by norm, as products of series

    private static long[] seriesTimes(long[] a, long[] b) {
        long[] out = new long[4001];
        for (int j = 0; j <= 4000; j++) {
            for (int i = 0; b[j] != 0 && i + j <= 4000; i++) {
                out[i + j] += a[i] * b[j];
            }
        }
        return out;
    }

    private static long[] seriesOf(long[] even, int evens, long[] odd, int odds) {
        long[] out = new long[4001];
        out[0] = 1;
        for (int n = 0; n < evens; n++) {
            out = seriesTimes(out, even);
        }
        for (int n = 0; n < odds; n++) {
            out = seriesTimes(out, odd);
        }
        return out;
    }

    private static void compareElements() {
        long[] even = new long[4001];
        long[] odd = new long[4001];
        for (int h = -63; h <= 63; h++) {
            (h % 2 == 0 ? even : odd)[h * h]++;
        }
        long[] whole = seriesOf(even, 8, odd, 0);
        long[] mixed = seriesOf(even, 4, odd, 4);
        long[] halved = seriesOf(even, 0, odd, 8);
        for (int order = 0; order < 8; order++) {
            OctavianDesk desk = null;
            for (int norm = 0; norm <= 1000; norm++) {
                // A desk is good for 512 calls.
                if (norm % 500 == 0) {
                    desk = new OctavianDesk();
                    desk.setOrder(order);
                }
                long due = whole[4 * norm] + (order == 0 ? 0 : 14 * mixed[4 * norm] + halved[4 * norm]);
                long got = desk.elements(norm);
                if (got != due) {
                    wrong++;
                    System.out.println("order " + order + " elements(" + norm + ") answered " + got + ", due is " + due);
                }
            }
        }
    }

    // ---- syntax: all short texts of the signs that have a meaning, and deep brackets

    private static void compareSyntax() {
        String signs = "a(')+*;=7i";
        for (int code = 0; code < 1000000; code += 7) {
            String text = "a=";
            for (int rest = code; rest > 0; rest /= 10) {
                text += signs.charAt(rest % 10);
            }
            compareSyntaxOf(text);
        }
        for (int deep = 0; deep < 9; deep++) {
            String open = "((((((((".substring(0, deep);
            compareSyntaxOf("b=" + open + "a");
            for (int shut = 0; shut < 9; shut++) {
                compareSyntaxOf("b=" + open + "a" + "))))))))".substring(0, shut) + ";");
                compareSyntaxOf("b=" + open + "a" + "))))))))".substring(0, shut) + "'+(a);");
            }
        }
    }

    private static void compareSyntaxOf(String text) {
        OctavianDesk desk = new OctavianDesk();
        for (int i = 0; i < text.length(); i++) {
            desk.append(text.charAt(i));
        }
        int got = desk.carryOut();
        int error = syntaxErrorOf(text);
        if (error < 0 ? got < 0 : got != -10 - error) {
            wrong++;
            System.out.println(text + " carried out: " + got + ", the syntax error is at " + error);
        }
    }

    /** A comparison that never comes to a case says nothing about it. */
    private static void needSeen() {
        String[] needed = {"set throws.IndexOutOfBoundsException", "set throws.IllegalArgumentException", "setFour throws.IllegalArgumentException",
            "load throws.IndexOutOfBoundsException", "add throws.ArithmeticException", "multiply throws.ArithmeticException",
            "commutator throws.ArithmeticException", "associator throws.ArithmeticException", "divide",
            "divide throws.IllegalArgumentException", "divide throws.IllegalStateException", "divide throws.ArithmeticException",
            "steps", "steps -1", "lastNorm", "lastNorm -1", "steps throws.IllegalStateException", "append throws.IllegalArgumentException",
            "undo throws.IllegalStateException", "unitOf -1", "carryOut"};
        for (String kind : needed) {
            if (!SEEN.containsKey(kind)) {
                wrong++;
                System.out.println("no run came to: " + kind);
            }
        }
    }
}
