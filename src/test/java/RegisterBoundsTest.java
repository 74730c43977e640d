import java.util.List;

/** The boundaries of the promises 1 to 10, and of what the terms say of octonions and registers. */
public final class RegisterBoundsTest {
    private static final Checks.Script NEW = d -> { };
    private static final Checks.Script TEXT = d -> Checks.write(d, "h=a*b-2c;a=c;");

    public static void main(String[] args) {
        newDesk();
        lastCall();
        sums();
        products();
        setRanges();
        setAnswers();
        setFourRanges();
        setFourAnswers();
        setOrder();
        loadRanges();
        loadUnits();
        addRanges();
        addLimits();
        multiplyRanges();
        multiplyLimits();
        multiplyQuarters();
        multiplyOntoItself();
        conjugate();
        commutatorRanges();
        commutatorLimits();
        commutatorOnTheWay();
        associatorRanges();
        associatorLimits();
        associatorOnTheWay();
        Checks.end("RegisterBoundsTest");
    }

    // ---- promise 1, and the terms

    private static void newDesk() {
        Checks.sentence("Terms, Registers: there are 8 registers, at first the register r holds er");
        OctavianDesk d = new OctavianDesk();
        for (int r = 0; r < 8; r++) {
            Checks.row(d, r, Checks.only(r, 2));
        }
        Checks.sentence("Terms, Orders: at first the order 1 is the present one");
        Checks.is("value(0)", d.value(0), 1);
        Checks.sentence("Promise 1: a desk as told: nothing multiplied or divided yet");
        Checks.is("value(2)", d.value(2), 0);
        Checks.is("value(3)", d.value(3), 0);
        Checks.sentence("Promise 1: a desk as told: no saved state");
        Checks.is("whether undo() is refused", Checks.thrownBy(d, x -> x.undo()) == Checks.STATE, true);
        Checks.sentence("Promise 1: a desk as told: an empty text");
        Checks.is("clearText()", d.clearText(), 0);
        Checks.is("append() on an empty text", d.append('a'), 1);
        Checks.sentence("NONE = -1");
        Checks.is("NONE", OctavianDesk.NONE, -1);
        Checks.sentence("Promise 1: a desk shares nothing with another one");
        OctavianDesk e = new OctavianDesk();
        e.set(0, 0, 7);
        e.setOrder(3);
        e.append('a');
        e.carryOut();
        Checks.row(new OctavianDesk(), 0, Checks.only(0, 2));
        Checks.is("value(0)", new OctavianDesk().value(0), 1);
        Checks.is("clearText()", new OctavianDesk().clearText(), 0);
    }

    private static void lastCall() {
        Checks.sentence("What it is: an object is used for at most 512 calls");
        OctavianDesk d = new OctavianDesk();
        for (int n = 1; n <= 507; n++) {
            Checks.is("set, call " + n, d.set(3, 5, n), n - 1);
        }
        for (int left = 3; left >= 0; left--) {
            Checks.is("undo", d.undo(), left);
        }
        Checks.is("the call 512", d.coordinate(3, 5), 503);
        OctavianDesk e = new OctavianDesk();
        // No text of 100 bytes has more products than this one, so no desk counts more in its calls.
        String text = "a=a" + "*a".repeat(48) + ";";
        Checks.write(e, text);
        for (int n = 1; n <= 512 - text.length() - 2; n++) {
            Checks.is("carryOut", e.carryOut(), 1);
        }
        Checks.is("the multiplications of a desk's last call", e.value(2), 48L * (512 - text.length() - 2));
    }

    private static void sums() {
        Checks.sentence("Terms, Octonions: octonions are added coordinate by coordinate");
        long[] a = {1, -20, 300, -1000, 5, 0, -7, 1999};
        long[] b = {999, 21, -301, -1000, 5, -6, 2000, 1};
        OctavianDesk d = withTwo(a, b);
        Checks.is("a + b", d.add(2, 3, 4, false), Checks.square(Checks.plus(a, b)));
        Checks.row(d, 4, 1000, 1, -1, -2000, 10, -6, 1993, 2000);
        Checks.is("b + a", d.add(3, 2, 4, false), Checks.square(Checks.plus(a, b)));
        Checks.row(d, 4, 1000, 1, -1, -2000, 10, -6, 1993, 2000);
        d.set(3, 6, 1993);
        d.add(2, 3, 4, true);
        Checks.row(d, 4, -998, -41, 601, 0, 0, 6, -2000, 1998);
        d.add(3, 2, 4, true);
        Checks.row(d, 4, 998, 41, -601, 0, 0, -6, 2000, -1998);
    }

    private static void products() {
        Checks.sentence("Terms, Octonions: e0 is the one");
        for (int i = 0; i < 8; i++) {
            isProduct(0, i, i, 1);
            isProduct(i, 0, i, 1);
        }
        Checks.sentence("Terms, Octonions: ei ei is minus e0 for i from 1 to 7");
        for (int i = 1; i < 8; i++) {
            isProduct(i, i, 0, -1);
        }
        Checks.sentence("Terms, Octonions: the six products of each triple");
        for (int[] t : Checks.TRIPLES) {
            isProduct(t[0], t[1], t[2], 1);
            isProduct(t[1], t[2], t[0], 1);
            isProduct(t[2], t[0], t[1], 1);
            isProduct(t[1], t[0], t[2], -1);
            isProduct(t[2], t[1], t[0], -1);
            isProduct(t[0], t[2], t[1], -1);
        }
        Checks.sentence("Terms, Octonions: the product is linear in both factors");
        OctavianDesk d = new OctavianDesk();
        long[] a = {2, -4, 6, 8, -10, 12, 14, -16};
        long[] b = {-3, 5, 7, -9, 11, 13, -15, 17};
        Checks.put(d, 1, a);
        Checks.put(d, 2, b);
        Checks.is("the norm of a product", d.multiply(1, 2, 3), Checks.square(a) * Checks.square(b) / 4);
        Checks.row(d, 3, Checks.halved(Checks.product(a, b)));
        d.multiply(2, 1, 3);
        Checks.row(d, 3, Checks.halved(Checks.product(b, a)));
    }

    private static void isProduct(int i, int j, int k, int sign) {
        OctavianDesk d = new OctavianDesk();
        Checks.put(d, 1, Checks.only(i, 6));
        Checks.put(d, 2, Checks.only(j, -4));
        int to = (i + j) % 8;
        Checks.is("the norm of a product", d.multiply(1, 2, to), 144);
        Checks.row(d, to, Checks.only(k, -12 * sign));
    }

    // ---- set

    private static void setRanges() {
        Checks.sentence("Promise 2: register: 0 to 7, IndexOutOfBoundsException if there is no such register");
        Checks.toSeven(Checks.INDEX, TEXT, (d, r) -> d.set(r, 0, 0));
        Checks.sentence("Promise 2: index: 0 to 7, IndexOutOfBoundsException if there is no such coordinate");
        Checks.toSeven(Checks.INDEX, TEXT, (d, i) -> d.set(0, i, 0));
        Checks.sentence("Promise 2: halves: -2000 to 2000, IllegalArgumentException if out of range");
        for (int i = 0; i < 8; i++) {
            int index = i;
            Checks.allowed(TEXT, d -> d.set(index, index, 2000));
            Checks.allowed(TEXT, d -> d.set(index, index, -2000));
            for (int halves : Checks.NOT_HALVES) {
                Checks.refused(Checks.ARGUMENT, TEXT, d -> d.set(index, index, halves));
            }
        }
        Checks.sentence("Promise 2: of several exceptions the one that is listed first: the index before the halves");
        Checks.toSeven(Checks.INDEX, TEXT, (d, r) -> d.set(r, 0, r < 0 || r > 7 ? 2001 : 0));
        Checks.toSeven(Checks.INDEX, TEXT, (d, i) -> d.set(0, i, i < 0 || i > 7 ? -2001 : 0));
        Checks.refused(Checks.INDEX, TEXT, d -> d.set(8, 8, 2001));
    }

    private static void setAnswers() {
        Checks.sentence("Promise 2: sets a coordinate of a register, and no other one");
        for (int r = 0; r < 8; r++) {
            for (int i = 0; i < 8; i++) {
                OctavianDesk d = new OctavianDesk();
                long[] due = Checks.look(d);
                Checks.is("set", d.set(r, i, -2000), r == i ? 2 : 0);
                due[6 + 8 * r + i] = -2000;
                Checks.same("all coordinates", Checks.look(d), due);
                Checks.sentence("Promise 2: returns the halves that it had");
                Checks.is("set again", d.set(r, i, 2000), -2000);
                Checks.is("and again", d.set(r, i, 0), 2000);
                Checks.is("and again", d.set(r, i, 1), 0);
                Checks.is("coordinate", d.coordinate(r, i), 1);
            }
        }
        Checks.sentence("Promise 2: undoable, even if it changes nothing");
        Checks.undoable(NEW, d -> d.set(7, 7, -2000));
        Checks.undoable(NEW, d -> d.set(0, 0, 2));
    }

    // ---- setFour

    private static void setFourRanges() {
        Checks.sentence("Promise 3: register: 0 to 7, IndexOutOfBoundsException if there is no such register");
        Checks.toSeven(Checks.INDEX, TEXT, (d, r) -> d.setFour(r, false, 1, 2, 3, 4));
        Checks.toSeven(Checks.INDEX, TEXT, (d, r) -> d.setFour(r, true, 1, 2, 3, 4));
        for (int at = 0; at < 4; at++) {
            int place = at;
            for (int limit : new int[] {-2000, 2000}) {
                Checks.sentence("Promise 3: each of the four is allowed from -2000 to 2000");
                Checks.allowed(TEXT, d -> fourWith(d, 3, false, place, limit));
                Checks.allowed(TEXT, d -> fourWith(d, 3, true, place, limit));
            }
            for (int halves : Checks.NOT_HALVES) {
                Checks.sentence("Promise 3: IllegalArgumentException if one of the four is out of range");
                Checks.refused(Checks.ARGUMENT, TEXT, d -> fourWith(d, 3, false, place, halves));
                Checks.refused(Checks.ARGUMENT, TEXT, d -> fourWith(d, 3, true, place, halves));
                Checks.sentence("Promise 3: of several exceptions the one that is listed first: the register before the halves");
                Checks.refused(Checks.INDEX, TEXT, d -> fourWith(d, 8, false, place, halves));
                Checks.refused(Checks.INDEX, TEXT, d -> fourWith(d, -1, true, place, halves));
            }
        }
    }

    private static long fourWith(OctavianDesk d, int register, boolean upper, int place, int halves) {
        int[] h = {1, -2, 3, -4};
        h[place] = halves;
        return d.setFour(register, upper, h[0], h[1], h[2], h[3]);
    }

    private static void setFourAnswers() {
        for (int r = 0; r < 8; r++) {
            Checks.sentence("Promise 3: the coordinates 0 to 3, or 4 to 7 if upper, and no other ones");
            OctavianDesk d = new OctavianDesk();
            long[] due = Checks.look(d);
            Checks.sentence("Promise 3: returns the norm of the register then, in quarters: of all 8 coordinates");
            Checks.is("setFour lower", d.setFour(r, false, 5, -6, 7, -8), 174 + (r < 4 ? 0 : 4));
            for (int i = 0; i < 4; i++) {
                due[6 + 8 * r + i] = new int[] {5, -6, 7, -8}[i];
            }
            due[4] = 7;
            Checks.same("the lower ones", Checks.look(d), due);
            Checks.is("setFour upper", d.setFour(r, true, -2000, 2000, -2000, 2000), 16000174);
            for (int i = 4; i < 8; i++) {
                due[6 + 8 * r + i] = new int[] {-2000, 2000, -2000, 2000}[i - 4];
            }
            Checks.same("the upper ones", Checks.look(d), due);
            Checks.is("the largest norm", d.setFour(r, false, -2000, -2000, 2000, 2000), 32000000);
            d.setFour(r, true, 0, 0, 0, 0);
            Checks.is("the norm 0", d.setFour(r, false, 0, 0, 0, 0), 0);
        }
        Checks.sentence("Promise 3: undoable, even if it changes nothing");
        Checks.undoable(NEW, d -> d.setFour(5, true, 1, 2, 3, 4));
        Checks.undoable(NEW, d -> d.setFour(5, false, 0, 0, 0, 0));
    }

    // ---- setOrder

    private static void setOrder() {
        Checks.sentence("Promise 4: order: 0 to 7, IllegalArgumentException if out of range");
        Checks.toSeven(Checks.ARGUMENT, TEXT, (d, n) -> d.setOrder(n));
        Checks.sentence("Promise 4: sets the present order, returns the previous one");
        OctavianDesk d = new OctavianDesk();
        Checks.is("setOrder", d.setOrder(7), 1);
        for (int from = 0; from < 8; from++) {
            for (int to = 0; to < 8; to++) {
                d.setOrder(from);
                Checks.is("setOrder(" + to + ")", d.setOrder(to), from);
                Checks.is("value(0)", d.value(0), to);
            }
        }
        Checks.sentence("Promise 4: undoable, even if it changes nothing");
        Checks.undoable(NEW, x -> x.setOrder(0));
        Checks.undoable(NEW, x -> x.setOrder(1));
    }

    // ---- load

    private static void loadRanges() {
        for (int n = 0; n < 8; n++) {
            int order = n;
            int units = order == 0 ? 16 : 240;
            Checks.Script inOrder = d -> d.setOrder(order);
            Checks.sentence("Promise 5: the numbers of units go from 0 to 15 in the order 0, to 239 in the others");
            Checks.allowed(inOrder, d -> d.load(0, 5));
            Checks.allowed(inOrder, d -> d.load(units - 1, 5));
            Checks.sentence("Promise 5: IndexOutOfBoundsException if there is no such unit");
            for (int unit : new int[] {-1, units, units + 1, 256, -240, Integer.MIN_VALUE, Integer.MAX_VALUE}) {
                Checks.refused(Checks.INDEX, inOrder, d -> d.load(unit, 5));
            }
            Checks.sentence("Promise 5: to: 0 to 7, IndexOutOfBoundsException if there is no such register");
            Checks.toSeven(Checks.INDEX, inOrder, (d, to) -> d.load(3, to));
        }
        Checks.sentence("Promise 5: a unit of the present order, not of one before");
        Checks.refused(Checks.INDEX, d -> {
            d.load(239, 0);
            d.setOrder(0);
        }, d -> d.load(16, 0));
        Checks.sentence("Promise 5: neither a unit nor a register");
        Checks.refused(Checks.INDEX, NEW, d -> d.load(240, 8));
        Checks.refused(Checks.INDEX, NEW, d -> d.load(-1, -1));
    }

    private static void loadUnits() {
        Checks.sentence("Terms, Units: a unit is an element with the norm 1; numbered from 0 by their rows, the lower one first");
        for (int order = 0; order < 8; order++) {
            List<long[]> due = Checks.unitsOf(order);
            Checks.is("the number of units", due.size(), order == 0 ? 16 : 240);
            OctavianDesk d = new OctavianDesk();
            for (int u = 0; u < due.size(); u++) {
                if (u % 40 == 0) {
                    d = new OctavianDesk();
                    d.setOrder(order);
                }
                Checks.sentence("Promise 5: returns the halves of its coordinate 0");
                Checks.is("load", d.load(u, u % 8), due.get(u)[0]);
                Checks.sentence("Terms, Units: the row of each unit, by its number");
                Checks.row(d, u % 8, due.get(u));
            }
        }
        Checks.sentence("Promise 5: into a register, and no other one");
        OctavianDesk d = new OctavianDesk();
        long[] due = Checks.look(d);
        d.load(0, 6);
        System.arraycopy(Checks.only(0, -2), 0, due, 6 + 48, 8);
        Checks.same("all coordinates", Checks.look(d), due);
        Checks.sentence("Promise 5: undoable, even if it changes nothing");
        Checks.undoable(NEW, x -> x.load(0, 6));
        Checks.undoable(NEW, x -> x.load(239, 0));
    }

    // ---- add

    private static void addRanges() {
        Checks.sentence("Promise 6: a, b, to: IndexOutOfBoundsException if there is no such register (0 to 7)");
        Checks.toSeven(Checks.INDEX, TEXT, (d, r) -> d.add(r, 0, 0, false));
        Checks.toSeven(Checks.INDEX, TEXT, (d, r) -> d.add(0, r, 0, true));
        Checks.toSeven(Checks.INDEX, TEXT, (d, r) -> d.add(0, 0, r, false));
        Checks.sentence("Promise 6: of several exceptions the one that is listed first: the register before the result");
        Checks.Script large = d -> d.set(1, 3, 2000);
        Checks.refused(Checks.ARITHMETIC, large, d -> d.add(1, 1, 2, false));
        Checks.refused(Checks.INDEX, large, d -> d.add(1, 1, 8, false));
        Checks.refused(Checks.INDEX, large, d -> d.add(1, 1, -1, false));
    }

    private static void addLimits() {
        for (int i = 0; i < 8; i++) {
            for (int sign = -1; sign <= 1; sign += 2) {
                Checks.sentence("Promise 6: 2000 halves can be put into a register, in each coordinate, on both sides");
                addFits(Checks.only(i, 1999 * sign), Checks.only(i, sign), false);
                addFits(Checks.only(i, 1999 * sign), Checks.only(i, -sign), true);
                addFits(Checks.only(i, 2000 * sign), Checks.only(i, 0), false);
                addFits(Checks.only(i, 2000 * sign), Checks.only(i, 2000 * sign), true);
                Checks.sentence("Promise 6: ArithmeticException if the result cannot be put into a register: 2001 halves");
                addIsRefused(Checks.only(i, 2000 * sign), Checks.only(i, sign), false);
                addIsRefused(Checks.only(i, 2000 * sign), Checks.only(i, -sign), true);
                addIsRefused(Checks.only(i, 1001 * sign), Checks.only(i, 1000 * sign), false);
                addIsRefused(Checks.only(i, 2000 * sign), Checks.only(i, 2000 * sign), false);
            }
        }
        Checks.sentence("Promise 6: the register that gets the result may be a or b");
        OctavianDesk d = new OctavianDesk();
        Checks.is("a + b to a", d.add(1, 2, 1, false), 8);
        Checks.row(d, 1, 0, 2, 2, 0, 0, 0, 0, 0);
        Checks.is("a - b to b", d.add(3, 1, 1, true), 12);
        Checks.row(d, 1, 0, -2, -2, 2, 0, 0, 0, 0);
        Checks.is("a - a to a", d.add(1, 1, 1, true), 0);
        Checks.row(d, 1, new long[8]);
        Checks.sentence("Promise 6: undoable, even if it changes nothing");
        Checks.undoable(NEW, x -> x.add(1, 2, 3, false));
        Checks.undoable(x -> x.set(1, 1, 0), x -> x.add(2, 1, 2, true));
    }

    private static void addFits(long[] a, long[] b, boolean subtract) {
        long[] due = Checks.plus(a, subtract ? Checks.negative(b) : b);
        OctavianDesk d = withTwo(a, b);
        long[] others = Checks.look(d);
        Checks.is("add", d.add(2, 3, 4, subtract), Checks.square(due));
        System.arraycopy(due, 0, others, 6 + 32, 8);
        others[4] = d.value(4);
        others[5] = d.value(5);
        Checks.same("all coordinates", Checks.look(d), others);
    }

    private static OctavianDesk withTwo(long[] a, long[] b) {
        return Checks.desk(two(a, b));
    }

    private static Checks.Script two(long[] a, long[] b) {
        return d -> {
            Checks.put(d, 2, a);
            Checks.put(d, 3, b);
        };
    }

    private static void addIsRefused(long[] a, long[] b, boolean subtract) {
        Checks.refused(Checks.ARITHMETIC, two(a, b), d -> d.add(2, 3, 4, subtract));
    }

    // ---- multiply

    private static void multiplyRanges() {
        Checks.sentence("Promise 7: a, b, to: IndexOutOfBoundsException if there is no such register (0 to 7)");
        Checks.toSeven(Checks.INDEX, TEXT, (d, r) -> d.multiply(r, 0, 0));
        Checks.toSeven(Checks.INDEX, TEXT, (d, r) -> d.multiply(0, r, 0));
        Checks.toSeven(Checks.INDEX, TEXT, (d, r) -> d.multiply(0, 0, r));
        Checks.sentence("Promise 7: of several exceptions the one that is listed first: the register before the result");
        Checks.Script large = d -> d.set(1, 3, 2000);
        Checks.refused(Checks.ARITHMETIC, large, d -> d.multiply(1, 1, 2));
        Checks.refused(Checks.INDEX, large, d -> d.multiply(1, 1, 8));
        Checks.refused(Checks.INDEX, large, d -> d.multiply(1, 1, -1));
    }

    private static void multiplyLimits() {
        for (int i = 0; i < 8; i++) {
            for (int sign = -1; sign <= 1; sign += 2) {
                Checks.sentence("Promise 7: 2000 halves can be put into a register, in each coordinate, on both sides");
                multiplyFits(Checks.only(0, 1000 * sign), Checks.only(i, 4));
                multiplyFits(Checks.only(i, -2), Checks.only(0, 2000 * sign));
                Checks.sentence("Promise 7: ArithmeticException if the result cannot be put into a register: 2001 halves");
                multiplyIsRefused(Checks.only(0, 1334 * sign), Checks.only(i, 3));
                multiplyIsRefused(Checks.only(i, -3), Checks.only(0, 1334 * sign));
                multiplyIsRefused(Checks.only(i, 2000), Checks.only(0, 2000 * sign));
            }
        }
        Checks.sentence("Promise 7: the largest and the least result there is are refused");
        long[] all = Checks.odd(255, 2000);
        multiplyIsRefused(all, all);
        multiplyIsRefused(all, Checks.negative(all));
        multiplyIsRefused(all, Checks.with(Checks.negative(all), 0, 2000));
    }

    private static void multiplyQuarters() {
        for (int i = 0; i < 8; i++) {
            for (int quarters : new int[] {1, -1, 3, -3, 3999, -3999, 1333, -1333}) {
                Checks.sentence("Promise 7: ArithmeticException if a coordinate is no multiple of a half");
                int three = quarters % 3 == 0 ? 3 : 1;
                multiplyIsRefused(Checks.only(0, quarters / three), Checks.only(i, three));
            }
            Checks.sentence("Promise 7: 1 and -1 half can be put into a register");
            multiplyFits(Checks.only(0, 1), Checks.only(i, 2));
            multiplyFits(Checks.only(i, -2), Checks.only(0, 1));
        }
        Checks.sentence("Promise 7: quarters that add up to halves can be put into a register");
        multiplyFits(Checks.odd(0b00010111, 1), Checks.odd(0b00010111, 1));
        multiplyFits(Checks.odd(255, 1), Checks.odd(255, -1));
    }

    private static void multiplyFits(long[] a, long[] b) {
        long[] due = Checks.halved(Checks.product(a, b));
        OctavianDesk d = withTwo(a, b);
        long[] others = Checks.look(d);
        Checks.is("multiply", d.multiply(2, 3, 4), Checks.square(due));
        System.arraycopy(due, 0, others, 6 + 32, 8);
        others[2]++;
        others[4] = d.value(4);
        others[5] = d.value(5);
        Checks.same("all coordinates", Checks.look(d), others);
    }

    private static void multiplyIsRefused(long[] a, long[] b) {
        Checks.refused(Checks.ARITHMETIC, two(a, b), d -> d.multiply(2, 3, 4));
    }

    private static void multiplyOntoItself() {
        Checks.sentence("Promise 7: the register that gets the result may be a or b");
        long[] a = {2, 4, 0, -2, 6, 8, 0, 2};
        long[] b = {4, -2, 2, 0, 2, 6, -4, 0};
        OctavianDesk d = withTwo(a, b);
        d.multiply(2, 3, 2);
        Checks.row(d, 2, Checks.halved(Checks.product(a, b)));
        d = withTwo(a, b);
        d.multiply(2, 3, 3);
        Checks.row(d, 3, Checks.halved(Checks.product(a, b)));
        d.multiply(2, 2, 2);
        Checks.row(d, 2, Checks.halved(Checks.product(a, a)));
        Checks.sentence("Promise 7: undoable, even if it changes nothing but the number of multiplications");
        Checks.undoable(NEW, x -> x.multiply(1, 2, 3));
        Checks.undoable(NEW, x -> x.multiply(0, 0, 0));
    }

    // ---- conjugate

    private static void conjugate() {
        Checks.sentence("Promise 8: register: IndexOutOfBoundsException if there is no such register (0 to 7)");
        Checks.toSeven(Checks.INDEX, TEXT, (d, r) -> d.conjugate(r));
        Checks.sentence("Terms, Octonions: the conjugate has the coordinates 1 to 7 with the other sign, and not the coordinate 0");
        for (int r = 0; r < 8; r++) {
            OctavianDesk d = new OctavianDesk();
            Checks.put(d, r, -2000, 1, -2, 3, -4, 5, -2000, 2000);
            long[] due = Checks.look(d);
            Checks.is("conjugate", d.conjugate(r), -2000);
            System.arraycopy(new long[] {-2000, -1, 2, -3, 4, -5, 2000, -2000}, 0, due, 6 + 8 * r, 8);
            Checks.same("all coordinates", Checks.look(d), due);
            Checks.sentence("Promise 8: returns the halves of its coordinate 0");
            d.set(r, 0, 2000);
            Checks.is("conjugate", d.conjugate(r), 2000);
            d.set(r, 0, 0);
            Checks.is("conjugate", d.conjugate(r), 0);
            Checks.row(d, r, 0, -1, 2, -3, 4, -5, 2000, -2000);
        }
        Checks.sentence("Promise 8: undoable, even if it changes nothing");
        Checks.undoable(NEW, d -> d.conjugate(5));
        Checks.undoable(NEW, d -> d.conjugate(0));
    }

    // ---- commutator

    private static void commutatorRanges() {
        Checks.sentence("Promise 9: a, b, to: IndexOutOfBoundsException if there is no such register (0 to 7)");
        Checks.toSeven(Checks.INDEX, TEXT, (d, r) -> d.commutator(r, 0, 0));
        Checks.toSeven(Checks.INDEX, TEXT, (d, r) -> d.commutator(0, r, 0));
        Checks.toSeven(Checks.INDEX, TEXT, (d, r) -> d.commutator(0, 0, r));
        Checks.sentence("Promise 9: of several exceptions the one that is listed first: the register before the result");
        Checks.Script large = d -> d.set(1, 1, 2000);
        Checks.refused(Checks.ARITHMETIC, large, d -> d.commutator(1, 2, 3));
        Checks.refused(Checks.INDEX, large, d -> d.commutator(1, 2, 8));
        Checks.refused(Checks.INDEX, large, d -> d.commutator(1, 2, -1));
    }

    private static void commutatorLimits() {
        for (int i = 1; i < 8; i++) {
            for (int j = 1; j < 8; j++) {
                if (i == j) {
                    continue;
                }
                // Two halves by their product: 2 x y quarters are x y halves.
                Checks.sentence("Promise 9: 2000 halves can be put into a register, in each coordinate, on both sides");
                commutatorFits(Checks.only(i, 40), Checks.only(j, 50));
                Checks.sentence("Promise 9: ArithmeticException if the result cannot be put into a register: 2001 halves");
                Checks.refused(Checks.ARITHMETIC, two(Checks.only(i, 3), Checks.only(j, 667)), d -> d.commutator(2, 3, 4));
                Checks.refused(Checks.ARITHMETIC, two(Checks.only(i, 2000), Checks.only(j, 2000)), d -> d.commutator(2, 3, 4));
                Checks.sentence("Promise 9: two halves have a commutator of one half");
                commutatorFits(Checks.only(i, 1), Checks.only(j, -1));
            }
        }
        Checks.sentence("Promise 9: undoable, even if it changes nothing");
        Checks.undoable(NEW, d -> d.commutator(1, 2, 3));
        Checks.undoable(d -> d.set(1, 1, 0), d -> d.commutator(2, 0, 1));
    }

    private static void commutatorOnTheWay() {
        Checks.sentence("Promise 9: only the result has to fit into a register, not the two products");
        commutatorFits(Checks.only(0, 2000), Checks.only(5, 2000));
        commutatorFits(Checks.odd(255, 2000), Checks.odd(255, 2000));
        commutatorFits(Checks.with(Checks.only(0, 2000), 1, 1), Checks.with(Checks.only(0, -1999), 7, 3));
        commutatorFits(Checks.with(Checks.only(0, 1), 1, 1), Checks.with(Checks.only(0, 1), 2, 1));
        Checks.sentence("Promise 9: the register that gets the result may be a or b");
        OctavianDesk d = new OctavianDesk();
        Checks.is("to a", d.commutator(1, 2, 1), 16);
        Checks.row(d, 1, Checks.only(4, 4));
        Checks.is("to b", d.commutator(2, 3, 3), 16);
        Checks.row(d, 3, Checks.only(5, 4));
        Checks.is("of itself to itself", d.commutator(6, 6, 6), 0);
        Checks.row(d, 6, new long[8]);
        Checks.sentence("Promise 18: a commutator is no multiplication that is counted");
        Checks.is("value(2)", d.value(2), 0);
    }

    private static void commutatorFits(long[] a, long[] b) {
        long[] due = Checks.halved(Checks.plus(Checks.product(a, b), Checks.negative(Checks.product(b, a))));
        OctavianDesk d = withTwo(a, b);
        Checks.is("commutator", d.commutator(2, 3, 4), Checks.square(due));
        Checks.row(d, 4, due);
        Checks.row(d, 2, a);
        Checks.row(d, 3, b);
    }

    // ---- associator

    private static void associatorRanges() {
        Checks.sentence("Promise 10: a, b, c, to: IndexOutOfBoundsException if there is no such register (0 to 7)");
        Checks.toSeven(Checks.INDEX, TEXT, (d, r) -> d.associator(r, 0, 0, 0));
        Checks.toSeven(Checks.INDEX, TEXT, (d, r) -> d.associator(0, r, 0, 0));
        Checks.toSeven(Checks.INDEX, TEXT, (d, r) -> d.associator(0, 0, r, 0));
        Checks.toSeven(Checks.INDEX, TEXT, (d, r) -> d.associator(0, 0, 0, r));
        Checks.sentence("Promise 10: of several exceptions the one that is listed first: the register before the result");
        Checks.Script large = d -> d.set(1, 1, 2000);
        Checks.refused(Checks.ARITHMETIC, large, d -> d.associator(1, 2, 3, 4));
        Checks.refused(Checks.INDEX, large, d -> d.associator(1, 2, 3, 8));
        Checks.refused(Checks.INDEX, large, d -> d.associator(1, 2, 3, -1));
    }

    private static void associatorLimits() {
        for (int i = 1; i < 8; i++) {
            for (int j = 1; j < 8; j++) {
                for (int k = 1; k < 8; k++) {
                    if (i != j && j != k && i != k && Math.abs(Checks.basis(i, j)) != k + 1) {
                        associatorLimitsOf(i, j, k);
                    }
                }
            }
        }
        Checks.sentence("Promise 10: ArithmeticException for the largest results too: no low bits of them may fit");
        for (int size : new int[] {256, 512, 1024, 1536, 2000}) {
            long[] a = {0, size, size, 0, 0, 0, 0, 0};
            long[] b = {0, size, -size, 0, 0, 0, 0, 0};
            associatorIsRefused(a, b, Checks.only(3, size));
            associatorIsRefused(b, a, Checks.only(3, size));
            associatorIsRefused(Checks.only(1, size), Checks.only(2, size), Checks.only(3, -size));
        }
        Checks.sentence("Promise 10: undoable, even if it changes nothing");
        Checks.undoable(NEW, d -> d.associator(1, 2, 3, 4));
        Checks.undoable(d -> d.set(1, 1, 0), d -> d.associator(2, 3, 5, 1));
    }

    /** Of three basis elements that do not associate: 2 x y z eighths are half of x y z halves. */
    private static void associatorLimitsOf(int i, int j, int k) {
        Checks.sentence("Promise 10: 2000 halves can be put into a register, in each coordinate, on both sides");
        associatorFits(Checks.only(i, 10), Checks.only(j, 20), Checks.only(k, 20));
        Checks.sentence("Promise 10: ArithmeticException if the result cannot be put into a register: 2001 halves");
        associatorIsRefused(Checks.only(i, 667), Checks.only(j, 2), Checks.only(k, 3));
        Checks.sentence("Promise 10: 1 half can be put into a register");
        associatorFits(Checks.only(i, 1), Checks.only(j, -2), Checks.only(k, 1));
        Checks.sentence("Promise 10: ArithmeticException if a coordinate is no multiple of a half");
        associatorIsRefused(Checks.only(i, 1), Checks.only(j, -1), Checks.only(k, 1));
        associatorIsRefused(Checks.only(i, 3), Checks.only(j, 3), Checks.only(k, 5));
    }

    private static void associatorOnTheWay() {
        Checks.sentence("Promise 10: only the result has to fit into a register, not the products on the way");
        associatorFits(Checks.only(0, 2000), Checks.only(0, 2000), Checks.only(0, 2000));
        associatorFits(Checks.odd(255, 2000), Checks.odd(255, -2000), Checks.only(6, 2000));
        associatorFits(Checks.with(Checks.only(0, 2000), 1, 1), Checks.with(Checks.only(0, -1999), 2, 2),
            Checks.with(Checks.only(0, 2000), 3, 1));
        associatorFits(Checks.only(1, 1), Checks.only(2, 1), Checks.only(4, 1));
        associatorFits(Checks.only(1, 1), Checks.only(0, 1), Checks.only(4, 1));
        Checks.sentence("Promise 10: the register that gets the result may be a, b or c");
        for (int to = 1; to <= 3; to++) {
            OctavianDesk d = new OctavianDesk();
            Checks.is("associator", d.associator(1, 2, 3, to), 16);
            Checks.row(d, to, Checks.only(6, -4));
            Checks.sentence("Promise 18: an associator is no multiplication that is counted");
            Checks.is("value(2)", d.value(2), 0);
        }
    }

    private static Checks.Script three(long[] a, long[] b, long[] c) {
        return d -> {
            Checks.put(d, 2, a);
            Checks.put(d, 3, b);
            Checks.put(d, 5, c);
        };
    }

    private static void associatorFits(long[] a, long[] b, long[] c) {
        long[] first = Checks.product(Checks.product(a, b), c);
        long[] second = Checks.product(a, Checks.product(b, c));
        long[] due = Checks.halved(Checks.halved(Checks.plus(first, Checks.negative(second))));
        OctavianDesk d = Checks.desk(three(a, b, c));
        Checks.is("associator", d.associator(2, 3, 5, 4), Checks.square(due));
        Checks.row(d, 4, due);
        Checks.row(d, 2, a);
        Checks.row(d, 3, b);
        Checks.row(d, 5, c);
    }

    private static void associatorIsRefused(long[] a, long[] b, long[] c) {
        Checks.refused(Checks.ARITHMETIC, three(a, b, c), d -> d.associator(2, 3, 5, 4));
    }
}
