import java.util.Arrays;
import java.util.List;

/** The boundaries of the promises 11, 23 and 24, and of what the terms say of division. */
public final class DivisionBoundsTest {
    private static final Checks.Script NEW = d -> { };
    /** The register 5 holds 0, the register 6 an element of no order, the register 7 one of the order 1, not of 0 or 3. */
    private static final Checks.Script KINDS = d -> {
        d.set(5, 5, 0);
        Checks.put(d, 6, 1, 0, 0, 0, 0, 0, 0, 0);
        Checks.put(d, 7, 1, 1, 1, 0, 1, 0, 0, 0);
        Checks.write(d, "h=a*b-2c;");
    };
    private static final long[] ALL = Checks.odd(255, 2000);

    public static void main(String[] args) {
        ranges();
        sameRegister();
        notDivisible();
        firstListed();
        quotientLimits();
        remainderLimits();
        nearest();
        ties();
        nearestOfAll();
        ontoItself();
        counted();
        stepsRanges();
        stepsNotDivisible();
        stepsEnds();
        stepsFortyAndMore();
        stepsNeedNotFit();
        stepsByDivide();
        Checks.end("DivisionBoundsTest");
    }

    private static OctavianDesk two(int order, long[] a, long[] b) {
        return Checks.desk(twoIn(order, a, b));
    }

    private static Checks.Script twoIn(int order, long[] a, long[] b) {
        return d -> {
            d.setOrder(order);
            Checks.put(d, 0, a);
            Checks.put(d, 1, b);
        };
    }

    // ---- promise 11: what is refused

    private static void ranges() {
        Checks.sentence("Promise 11: a, b, quotient, remainder: IndexOutOfBoundsException if there is no such register (0 to 7)");
        for (int r = 0; r < 8; r++) {
            int number = r;
            int other = (r + 1) % 8;
            Checks.allowed(NEW, d -> d.divide(number, 1, 2, 3));
            Checks.allowed(NEW, d -> d.divide(1, number, 2, 3));
            Checks.allowed(NEW, d -> d.divide(1, 1, number, other));
            Checks.allowed(NEW, d -> d.divide(1, 1, other, number));
        }
        for (int number : Checks.NOT_TO_SEVEN) {
            Checks.refused(Checks.INDEX, NEW, d -> d.divide(number, 1, 2, 3));
            Checks.refused(Checks.INDEX, NEW, d -> d.divide(1, number, 2, 3));
            Checks.refused(Checks.INDEX, NEW, d -> d.divide(1, 1, number, 3));
            Checks.refused(Checks.INDEX, NEW, d -> d.divide(1, 1, 3, number));
        }
    }

    private static void sameRegister() {
        Checks.sentence("Promise 11: IllegalArgumentException if quotient and remainder are the same register");
        for (int r = 0; r < 8; r++) {
            int number = r;
            Checks.refused(Checks.ARGUMENT, NEW, d -> d.divide(0, 1, number, number));
        }
    }

    private static void notDivisible() {
        Checks.sentence("Promise 11: IllegalStateException if a is not in the present order");
        Checks.refused(Checks.STATE, KINDS, d -> d.divide(6, 1, 2, 3));
        Checks.sentence("Promise 11: IllegalStateException if b is not in the present order");
        Checks.refused(Checks.STATE, KINDS, d -> d.divide(1, 6, 2, 3));
        Checks.refused(Checks.STATE, KINDS, d -> d.divide(6, 6, 2, 3));
        Checks.sentence("Promise 11: IllegalStateException if b is 0");
        Checks.refused(Checks.STATE, KINDS, d -> d.divide(1, 5, 2, 3));
        Checks.refused(Checks.STATE, KINDS, d -> d.divide(5, 5, 2, 3));
        Checks.refused(Checks.STATE, KINDS, d -> d.divide(6, 5, 2, 3));
        Checks.sentence("Promise 11: a may be 0");
        OctavianDesk d = Checks.desk(KINDS);
        Checks.is("0 / e1", d.divide(5, 1, 2, 3), 0);
        Checks.row(d, 2, new long[8]);
        Checks.row(d, 3, new long[8]);
        for (int n = 0; n < 8; n++) {
            int order = n;
            Checks.Script inOrder = x -> {
                KINDS.on(x);
                x.setOrder(order);
            };
            if (order == 1 || order == 2 || order == 4) {
                Checks.sentence("Promise 11: elements of the present order are divided");
                Checks.allowed(inOrder, x -> x.divide(7, 1, 2, 3));
                Checks.allowed(inOrder, x -> x.divide(1, 7, 2, 3));
            } else {
                Checks.sentence("Promise 11: elements of other orders alone are refused");
                Checks.refused(Checks.STATE, inOrder, x -> x.divide(7, 1, 2, 3));
                Checks.refused(Checks.STATE, inOrder, x -> x.divide(1, 7, 2, 3));
            }
            Checks.sentence("Promise 11: b is 0, in each order");
            Checks.refused(Checks.STATE, inOrder, x -> x.divide(1, 5, 2, 3));
        }
    }

    private static void firstListed() {
        Checks.sentence("Promise 11: the register is looked at before quotient and remainder being the same");
        Checks.refused(Checks.INDEX, KINDS, d -> d.divide(0, 1, 8, 8));
        Checks.refused(Checks.INDEX, KINDS, d -> d.divide(0, 1, -1, -1));
        Checks.refused(Checks.INDEX, KINDS, d -> d.divide(8, 1, 2, 2));
        Checks.refused(Checks.INDEX, KINDS, d -> d.divide(1, -1, 2, 2));
        Checks.sentence("Promise 11: the register is looked at before what it holds");
        Checks.refused(Checks.INDEX, KINDS, d -> d.divide(6, 5, 8, 2));
        Checks.refused(Checks.INDEX, KINDS, d -> d.divide(6, 5, 2, 8));
        Checks.refused(Checks.INDEX, KINDS, d -> d.divide(8, 5, 2, 3));
        Checks.refused(Checks.INDEX, KINDS, d -> d.divide(6, 8, 2, 3));
        Checks.sentence("Promise 11: quotient and remainder being the same comes before the order and the 0");
        Checks.refused(Checks.ARGUMENT, KINDS, d -> d.divide(6, 1, 2, 2));
        Checks.refused(Checks.ARGUMENT, KINDS, d -> d.divide(1, 6, 2, 2));
        Checks.refused(Checks.ARGUMENT, KINDS, d -> d.divide(1, 5, 5, 5));
        Checks.sentence("Promise 11: all of them come before the result that does not fit");
        Checks.Script large = twoIn(1, Checks.halved(Checks.product(allOddWith(0, 2001), HALF)), HALF);
        Checks.refused(Checks.ARITHMETIC, large, d -> d.divide(0, 1, 2, 3));
        Checks.refused(Checks.INDEX, large, d -> d.divide(0, 1, 2, 8));
        Checks.refused(Checks.INDEX, large, d -> d.divide(0, 1, -1, 3));
        Checks.refused(Checks.ARGUMENT, large, d -> d.divide(0, 1, 2, 2));
        Checks.refused(Checks.STATE, d -> {
            large.on(d);
            d.setOrder(0);
        }, d -> d.divide(0, 1, 2, 3));
    }

    // ---- promise 11: the last result that fits, and the first one that does not

    /** Half of e0 + e1 + e2 + e4, a unit of the order 1. */
    private static final long[] HALF = Checks.odd(0b00010111, 1);

    private static long[] allOddWith(int index, long halves) {
        return Checks.with(Checks.odd(255, Long.signum(halves)), index, halves);
    }

    private static void quotientLimits() {
        for (int i = 0; i < 8; i++) {
            for (int sign = -1; sign <= 1; sign += 2) {
                Checks.sentence("Promise 11: a quotient of 2000 halves can be put into a register, in each coordinate, on both sides");
                dividesTo(1, Checks.only(i, 2000 * sign), HALF, new long[8]);
                dividesTo(1, allOddWith(i, 1999 * sign), HALF, new long[8]);
                Checks.sentence("Promise 11: ArithmeticException if the quotient cannot be put into a register: 2001 halves");
                long[] a = Checks.halved(Checks.product(allOddWith(i, 2001 * sign), HALF));
                Checks.refused(Checks.ARITHMETIC, twoIn(1, a, HALF), d -> d.divide(0, 1, 2, 3));
            }
        }
    }

    /** The quotient q with the remainder r, told from the back: a is q b + r. */
    private static void dividesTo(int order, long[] q, long[] b, long[] r) {
        long[] a = Checks.plus(Checks.halved(Checks.product(q, b)), r);
        OctavianDesk d = two(order, a, b);
        long[] due = Checks.look(d);
        Checks.is("divide", d.divide(0, 1, 2, 3), Checks.square(r));
        System.arraycopy(q, 0, due, 6 + 16, 8);
        System.arraycopy(r, 0, due, 6 + 24, 8);
        due[3]++;
        due[4] = d.value(4);
        due[5] = d.value(5);
        Checks.same("all coordinates", Checks.look(d), due);
    }

    /** Small remainders of a large divisor: the quotient can only be the one that a was made with. */
    private static void remainderLimits() {
        for (int i = 0; i < 8; i++) {
            for (int sign = -1; sign <= 1; sign += 2) {
                long[] q = Checks.only(0, -2 * sign);
                for (int order = 0; order < 8; order++) {
                    Checks.sentence("Promise 11: a remainder of 2000 halves can be put into a register, in each coordinate, on both sides");
                    dividesTo(order, q, ALL, Checks.only(i, 2000 * sign));
                    Checks.sentence("Promise 11: ArithmeticException if the remainder cannot be put into a register: 2002 halves");
                    remainderIsRefused(order, q, Checks.only(i, 2002 * sign));
                }
                Checks.sentence("Promise 11: a remainder of 1999 halves can be put into a register");
                dividesTo(5, q, ALL, allOddWith(i, 1999 * sign));
                Checks.sentence("Promise 11: ArithmeticException if the remainder cannot be put into a register: 2001 halves");
                remainderIsRefused(5, q, allOddWith(i, 2001 * sign));
            }
        }
    }

    private static void remainderIsRefused(int order, long[] q, long[] r) {
        long[] a = Checks.plus(Checks.halved(Checks.product(q, ALL)), r);
        Checks.refused(Checks.ARITHMETIC, twoIn(order, a, ALL), d -> d.divide(0, 1, 2, 3));
        // The quotient alone would fit, wherever it goes.
        Checks.refused(Checks.ARITHMETIC, twoIn(order, a, ALL), d -> d.divide(0, 1, 1, 0));
    }

    // ---- promise 11: the nearest element, and of several the one whose row comes first

    private static void nearest() {
        Checks.sentence("Terms, Division: the quotient is the element of the order that is nearest to a times the conjugate of b, by its norm");
        for (int order = 1; order < 8; order++) {
            for (int code = order; code < 65536; code += 29) {
                long[] a = new long[8];
                int odd = 0;
                for (int i = 0; i < 8; i++) {
                    a[i] = (code >> (2 * i) & 3) * 5 - 9;
                    odd |= (int) (a[i] & 1) << i;
                }
                if (Checks.isInOrder(odd, order)) {
                    isHalf(order, a, Checks.only(0, 2));
                }
            }
        }
    }

    /** Half an element is in the middle of 2 or of 16 elements of an order 1 to 7, or of up to 256 of the order 0. */
    private static void ties() {
        Checks.sentence("Terms, Division: of several nearest elements the one whose row comes first, compared like units");
        for (int order = 0; order < 8; order++) {
            OctavianDesk d = new OctavianDesk();
            d.setOrder(order);
            int units = d.value(1);
            for (int u = 0; u < units; u += 3) {
                long[] unit = unit(order, u);
                for (int v = u % 5; v < units; v += order == 0 ? 1 : 17) {
                    isHalf(order, unit, unit(order, v));
                    isHalf(order, Checks.plus(unit, unit(order, v)), unit(order, units - 1 - u));
                }
            }
            for (int index = 0; index < 8; index++) {
                isHalf(order, Checks.only(index, 2), Checks.only(0, 2));
                isHalf(order, Checks.only(index, -2), Checks.only(7 - index, 2));
            }
            isHalf(order, Checks.odd(255, 2), Checks.only(0, 2));
            isHalf(order, Checks.odd(255, -2), Checks.only(0, 2));
            isHalf(order, Checks.odd(15, -2), Checks.only(3, 2));
        }
    }

    private static long[] unit(int order, int number) {
        OctavianDesk d = new OctavianDesk();
        d.setOrder(order);
        d.load(number, 0);
        long[] row = new long[8];
        for (int i = 0; i < 8; i++) {
            row[i] = d.coordinate(0, i);
        }
        return row;
    }

    /** Divides by twice a unit: a times its conjugate is halved, and looked for among all rows around. */
    private static void isHalf(int order, long[] a, long[] unit) {
        long[] conjugate = Checks.with(Checks.negative(unit), 0, unit[0]);
        long[] sought = Checks.halved(Checks.product(a, conjugate));
        long[] b = Checks.plus(unit, unit);
        best = null;
        tryRows(order, sought, new long[8], 0, 0);
        OctavianDesk d = two(order, a, b);
        long norm = d.divide(0, 1, 2, 3);
        Checks.row(d, 2, best);
        long[] r = Checks.plus(a, Checks.negative(Checks.halved(Checks.product(best, b))));
        Checks.sentence("Terms, Division: the remainder is a - q b");
        Checks.row(d, 3, r);
        Checks.sentence("Promise 11: returns the norm of the remainder, in quarters");
        Checks.is("divide", norm, Checks.square(r));
    }

    private static long[] best;
    private static long leastFar;

    /** Rows come in their order, so that a later one is taken only if it is nearer. */
    private static void tryRows(int order, long[] sought, long[] row, int i, long far) {
        if (best != null && far >= leastFar) {
            return;
        }
        if (i == 8) {
            int odd = 0;
            for (int at = 0; at < 8; at++) {
                odd |= (int) (row[at] & 1) << at;
            }
            if (Checks.isInOrder(odd, order)) {
                best = row.clone();
                leastFar = far;
            }
            return;
        }
        for (long h = Math.floorDiv(sought[i] - 2, 2); 2 * h <= sought[i] + 2; h++) {
            long off = 2 * h - sought[i];
            row[i] = h;
            tryRows(order, sought, row, i + 1, far + off * off);
        }
    }

    /** Some rows of an order, the same ones in each run: the halves of a unit, and whole numbers of a size. */
    private static long[] some(int order, List<long[]> units, int number, int size) {
        long[] row = units.get(number % units.size()).clone();
        long code = 40503L * (number + 1) * (order + 11);
        for (int i = 0; i < 8; i++) {
            code = code * 6364136223846793005L + 1442695040888963407L;
            row[i] += 2 * ((code >>> 33) % (2 * size + 1) - size);
        }
        return row;
    }

    /**
     * In each order the cells around what is nearest are bounded by the units, and what lies equally near is joined by
     * units: so a quotient is the one that is due if no unit more makes it nearer, or as near with a row that comes first.
     */
    private static void nearestOfAll() {
        Checks.sentence("Terms, Division: the nearest element, and the first of several, for a and b of any size");
        int[][] sizes = {{3, 1}, {20, 1}, {20, 3}, {300, 20}, {900, 100}, {900, 300}, {5, 300}};
        int divided = 0;
        for (int order = 0; order < 8; order++) {
            List<long[]> units = Checks.unitsOf(order);
            for (int n = 0; n < 210; n++) {
                long[] a = some(order, units, 7 * n + 1, sizes[n % 7][0]);
                long[] b = some(order, units, 11 * n + 5, sizes[n % 7][1]);
                OctavianDesk d = two(order, a, b);
                Class<?> thrown = Checks.square(b) == 0 ? Checks.STATE : Checks.thrownBy(d, x -> x.divide(0, 1, 2, 3));
                if (thrown == null) {
                    divided++;
                    isNearest(d, units, a, b);
                }
            }
        }
        Checks.is("whether most of them are divided", divided > 1600, true);
    }

    private static void isNearest(OctavianDesk d, List<long[]> units, long[] a, long[] b) {
        long[] q = new long[8];
        for (int i = 0; i < 8; i++) {
            q[i] = d.coordinate(2, i);
        }
        Checks.row(d, 3, Checks.plus(a, Checks.negative(Checks.halved(Checks.product(q, b)))));
        long[] sought = Checks.product(a, Checks.with(Checks.negative(b), 0, b[0]));
        long norm = Checks.square(b);
        long far = farOff(q, sought, norm);
        boolean nearest = true;
        for (long[] unit : units) {
            long[] other = Checks.plus(q, unit);
            long otherFar = farOff(other, sought, norm);
            nearest &= far < otherFar || far == otherFar && Arrays.compare(q, other) < 0;
        }
        Checks.is("whether " + Arrays.toString(q) + " is the quotient of " + Arrays.toString(a) + " by " + Arrays.toString(b), nearest, true);
    }

    /** The squared distance in halves, times the squared norm. */
    private static long farOff(long[] q, long[] sought, long norm) {
        long sum = 0;
        for (int i = 0; i < 8; i++) {
            long off = norm * q[i] - 2 * sought[i];
            sum += off * off;
        }
        return sum;
    }

    // ---- promise 11: where the results go, and what is counted

    private static void ontoItself() {
        Checks.sentence("Promise 11: the registers that get the results may be a and b");
        long[] q = {4, -6, 2, 0, 8, -2, 0, 2};
        long[] b = {12, 14, -16, 10, 0, 18, -12, 20};
        long[] r = {2, 0, -2, 0, 2, 0, 0, 0};
        long[] a = Checks.plus(Checks.halved(Checks.product(q, b)), r);
        int[][] registers = {{0, 1}, {1, 0}, {0, 4}, {4, 0}, {1, 4}, {4, 1}};
        for (int[] x : registers) {
            OctavianDesk d = two(1, a, b);
            Checks.is("divide", d.divide(0, 1, x[0], x[1]), 12);
            Checks.row(d, x[0], q);
            Checks.row(d, x[1], r);
        }
        OctavianDesk d = two(1, a, b);
        Checks.is("a / a", d.divide(0, 0, 0, 1), 0);
        Checks.row(d, 0, Checks.only(0, 2));
        Checks.row(d, 1, new long[8]);
        Checks.sentence("Promise 11: undoable, even if it changes nothing but the number of divisions");
        Checks.undoable(NEW, x -> x.divide(1, 2, 3, 4));
        Checks.undoable(x -> x.set(1, 1, 0), x -> x.divide(2, 2, 0, 1));
    }

    private static void counted() {
        Checks.sentence("Promise 18: 3 the divisions so far (by divide()), and not those that are refused");
        OctavianDesk d = Checks.desk(KINDS);
        Checks.is("value(3)", d.value(3), 0);
        for (int n = 1; n <= 6; n++) {
            d.divide(1, 2, 3, 4);
            Checks.is("value(3)", d.value(3), n);
            Checks.is("a division by 0", Checks.thrownBy(d, x -> x.divide(1, 5, 3, 4)) == Checks.STATE, true);
            Checks.is("value(3)", d.value(3), n);
        }
        Checks.is("steps()", d.steps(1, 2), 1);
        Checks.is("lastNorm()", d.lastNorm(1, 2), 4);
        Checks.is("value(3)", d.value(3), 6);
        Checks.is("value(2)", d.value(2), 0);
        d.undo();
        Checks.is("value(3)", d.value(3), 5);
    }

    // ---- promises 23 and 24

    private static void stepsRanges() {
        Checks.sentence("Promise 23: a, b: IndexOutOfBoundsException if there is no such register (0 to 7)");
        Checks.toSeven(Checks.INDEX, NEW, (d, r) -> d.steps(r, 1));
        Checks.toSeven(Checks.INDEX, NEW, (d, r) -> d.steps(1, r));
        Checks.sentence("Promise 24: a, b: IndexOutOfBoundsException if there is no such register (0 to 7)");
        Checks.toSeven(Checks.INDEX, NEW, (d, r) -> d.lastNorm(r, 1));
        Checks.toSeven(Checks.INDEX, NEW, (d, r) -> d.lastNorm(1, r));
        Checks.sentence("Promises 23 and 24: of several exceptions the one that is listed first: the register before what it holds");
        Checks.refused(Checks.INDEX, KINDS, d -> d.steps(6, 8));
        Checks.refused(Checks.INDEX, KINDS, d -> d.steps(-1, 5));
        Checks.refused(Checks.INDEX, KINDS, d -> d.lastNorm(6, 8));
        Checks.refused(Checks.INDEX, KINDS, d -> d.lastNorm(-1, 5));
    }

    private static void stepsNotDivisible() {
        int[][] refused = {{6, 1}, {1, 6}, {6, 6}, {1, 5}, {5, 5}, {6, 5}};
        for (int[] x : refused) {
            Checks.sentence("Promise 23: IllegalStateException if a or b is not in the present order, or b is 0");
            Checks.refused(Checks.STATE, KINDS, d -> d.steps(x[0], x[1]));
            Checks.sentence("Promise 24: IllegalStateException if a or b is not in the present order, or b is 0");
            Checks.refused(Checks.STATE, KINDS, d -> d.lastNorm(x[0], x[1]));
        }
        for (int n = 0; n < 8; n++) {
            int order = n;
            Checks.Script inOrder = d -> {
                KINDS.on(d);
                d.setOrder(order);
            };
            boolean has = order == 1 || order == 2 || order == 4;
            Checks.sentence("Promises 23 and 24: the present order is asked for a and b, and no other one");
            if (has) {
                Checks.allowed(inOrder, d -> d.steps(7, 1));
                Checks.allowed(inOrder, d -> d.lastNorm(1, 7));
            } else {
                Checks.refused(Checks.STATE, inOrder, d -> d.steps(7, 1));
                Checks.refused(Checks.STATE, inOrder, d -> d.steps(1, 7));
                Checks.refused(Checks.STATE, inOrder, d -> d.lastNorm(7, 1));
                Checks.refused(Checks.STATE, inOrder, d -> d.lastNorm(1, 7));
            }
        }
    }

    private static void isEuclid(int order, long[] a, long[] b, int steps, long norm) {
        OctavianDesk d = two(order, a, b);
        Checks.is("steps", d.steps(0, 1), steps);
        Checks.is("lastNorm", d.lastNorm(0, 1), norm);
        Checks.quiet(twoIn(order, a, b), x -> x.steps(0, 1));
        Checks.quiet(twoIn(order, a, b), x -> x.lastNorm(0, 1));
    }

    private static void stepsEnds() {
        for (int order = 0; order < 8; order++) {
            Checks.sentence("Promises 23 and 24: a first remainder of 0 ends the steps: 1 division, and b is the last divisor");
            isEuclid(order, Checks.only(0, 12), Checks.only(3, 6), 1, 36);
            Checks.sentence("Promises 23 and 24: a may be 0");
            isEuclid(order, new long[8], Checks.only(7, 2000), 1, 4000000);
            Checks.sentence("Promises 23 and 24: a is divided by b, then b by the remainder, and so on");
            isEuclid(order, Checks.only(0, 2000), Checks.only(0, 14), 2, 4);
            isEuclid(order, Checks.only(0, 14), Checks.only(0, 2000), 3, 4);
            isEuclid(order, Checks.only(0, 2000), Checks.only(2, 16), 1, 256);
            isEuclid(order, Checks.only(2, 16), Checks.only(0, 2000), 2, 256);
        }
    }

    /** These pairs were built from the last division backwards: they take 40 divisions, and one more. */
    private static void stepsFortyAndMore() {
        long[] a = {-20, 0, -38, -18, 20, -38, -18, -38};
        long[] b = {20, 20, -20, -18, -20, -20, 20, -58};
        Checks.sentence("Promises 23 and 24: 40 divisions are told");
        isEuclid(0, a, b, 40, 4);
        Checks.sentence("Promises 23 and 24: NONE if there are more than 40 divisions: 41");
        isEuclid(0, new long[] {20, -20, 58, 20, 20, -20, -20, 18}, new long[] {20, -40, -2, 0, 20, 20, 0, -60}, -1, -1);
        Checks.sentence("Promises 23 and 24: NONE if the steps do not end");
        // Half of 1 + e1 + ... + e7 is rounded to 0 or to a remainder of the same norm, again and again.
        isEuclid(0, Checks.odd(255, 2), Checks.only(0, 4), -1, -1);
    }

    private static void stepsNeedNotFit() {
        Checks.sentence("Promises 23 and 24: quotients need not fit into a register");
        long[] q = allOddWith(3, 2001);
        isEuclid(1, Checks.halved(Checks.product(q, HALF)), HALF, 1, 4);
        Checks.sentence("Promises 23 and 24: remainders need not fit into a register");
        // 1000 s, of the sum s of all ei: the remainders are 1001, -s, 1 and 0.
        long[] a = Checks.plus(Checks.negative(ALL), Checks.only(0, 2002));
        for (int order = 0; order < 8; order++) {
            isEuclid(order, a, ALL, 4, 4);
        }
    }

    /** Each step made by divide() itself, on a desk of its own. */
    private static void stepsByDivide() {
        Checks.sentence("Promises 23 and 24: each step is a division as divide() makes it, and the last divisor is told");
        int ended = 0;
        for (int order = 0; order < 8; order++) {
            List<long[]> units = Checks.unitsOf(order);
            for (int n = 0; n < 40; n++) {
                long[] a = some(order, units, 13 * n + 2, n % 2 == 0 ? 60 : 2);
                long[] b = some(order, units, 17 * n + 3, 20);
                OctavianDesk d = two(order, a, b);
                Checks.put(d, 4, new long[8]);
                int steps = d.steps(0, 1);
                long last = d.lastNorm(0, 1);
                long divisor = 0;
                long remainder = 1;
                int done = 0;
                while (done < 40 && remainder != 0) {
                    divisor = d.norm(1);
                    remainder = d.divide(0, 1, 2, 3);
                    d.add(1, 4, 0, false);
                    d.add(3, 4, 1, false);
                    done++;
                }
                ended += remainder == 0 ? 1 : 0;
                Checks.is("steps", steps, remainder == 0 ? done : OctavianDesk.NONE);
                Checks.is("lastNorm", last, remainder == 0 ? divisor : OctavianDesk.NONE);
            }
        }
        Checks.is("whether most of them end", ended > 250, true);
    }
}
