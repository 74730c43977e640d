import java.util.Arrays;

/** Each promise of the document by hand: ordinary inputs, the edges that it names, and wrong inputs. */
public final class PromiseTest {
    private static final Class<? extends RuntimeException> INDEX = IndexOutOfBoundsException.class;
    private static final Class<? extends RuntimeException> ARGUMENT = IllegalArgumentException.class;
    private static final Class<? extends RuntimeException> STATE = IllegalStateException.class;
    private static final Class<? extends RuntimeException> ARITHMETIC = ArithmeticException.class;
    private static final int[] NO_REGISTERS = {-1, 8, Integer.MIN_VALUE, Integer.MAX_VALUE};

    private static int wrong = 0;
    private static int checks = 0;
    private static int promise = 0;

    private interface Call {
        void run();
    }

    public static void main(String[] args) {
        newObject();
        set();
        setFour();
        setOrder();
        load();
        add();
        multiply();
        conjugate();
        commutator();
        associator();
        divide();
        values();
        left();
        unitOf();
        value();
        dimension();
        commuteAndAssociate();
        elements();
        euclid();
        commuting();
        text();
        syntax();
        carryOut();
        undo();
        digest();
        System.out.println(wrong == 0 ? "all " + checks + " checks of the promises hold" : wrong + " checks fail");
        if (wrong != 0) {
            System.exit(1);
        }
    }

    // ---- checking

    private static void is(String what, long got, long due) {
        checks++;
        if (got != due) {
            wrong++;
            System.out.println("promise " + promise + ": " + what + " answered " + got + ", due is " + due);
        }
    }

    private static void is(String what, boolean got, boolean due) {
        is(what, got ? 1 : 0, due ? 1 : 0);
    }

    /** The call throws just this, and changes nothing: the digest tells the text, the values, and the saved states. */
    private static void refuses(OctavianDesk d, Class<? extends RuntimeException> due, Call call) {
        checks++;
        long before = d.digest();
        Class<?> got = null;
        try {
            call.run();
        } catch (RuntimeException e) {
            got = e.getClass();
        }
        if (got != due) {
            wrong++;
            System.out.println("promise " + promise + ": check " + checks + " threw " + got + ", due is " + due);
        }
        is("digest after a call that throws", d.digest(), before);
    }

    private static void row(OctavianDesk d, int register, int... due) {
        for (int i = 0; i < 8; i++) {
            is("coordinate(" + register + ", " + i + ") of " + Arrays.toString(due), d.coordinate(register, i), due[i]);
        }
    }

    private static void put(OctavianDesk d, int register, int... halves) {
        d.setFour(register, false, halves[0], halves[1], halves[2], halves[3]);
        d.setFour(register, true, halves[4], halves[5], halves[6], halves[7]);
    }

    private static void write(OctavianDesk d, String text) {
        d.clearText();
        for (int i = 0; i < text.length(); i++) {
            d.append(text.charAt(i));
        }
    }

    private static int carry(OctavianDesk d, String text) {
        write(d, text);
        return d.carryOut();
    }

    /** On a new desk: the call saves one state, and undo() brings it back. */
    private static void undoes(OctavianDesk d, Call call) {
        long before = d.digest();
        call.run();
        int left = d.undo();
        is("saved states after undoing the first call", left, 0);
        is("digest after undoing", d.digest(), before);
    }

    // ---- the promises

    private static void newObject() {
        promise = 1;
        is("NONE", OctavianDesk.NONE, -1);
        OctavianDesk d = new OctavianDesk();
        for (int r = 0; r < 8; r++) {
            int[] due = new int[8];
            due[r] = 2;
            row(d, r, due);
        }
        is("value(0)", d.value(0), 1);
        is("value(2)", d.value(2), 0);
        is("value(3)", d.value(3), 0);
        is("clearText()", d.clearText(), 0);
        refuses(d, STATE, () -> d.undo());
        OctavianDesk e = new OctavianDesk();
        e.set(0, 0, 7);
        is("another desk's register", d.coordinate(0, 0), 2);
    }

    private static void set() {
        promise = 2;
        OctavianDesk d = new OctavianDesk();
        is("set(3, 3, -2000)", d.set(3, 3, -2000), 2);
        is("set(3, 3, 2000)", d.set(3, 3, 2000), -2000);
        is("set(3, 0, 1)", d.set(3, 0, 1), 0);
        is("set(7, 7, 2)", d.set(7, 7, 2), 2);
        row(d, 3, 1, 0, 0, 2000, 0, 0, 0, 0);
        for (int r : NO_REGISTERS) {
            refuses(d, INDEX, () -> d.set(r, 0, 0));
            refuses(d, INDEX, () -> d.set(0, r, 0));
            refuses(d, INDEX, () -> d.set(0, r, 2001));
        }
        for (int h : new int[] {-2001, 2001, Integer.MIN_VALUE, Integer.MAX_VALUE}) {
            refuses(d, ARGUMENT, () -> d.set(0, 0, h));
        }
    }

    private static void setFour() {
        promise = 3;
        OctavianDesk d = new OctavianDesk();
        is("setFour lower", d.setFour(4, false, 1, -2, 3, -4), 34);
        row(d, 4, 1, -2, 3, -4, 2, 0, 0, 0);
        is("setFour upper", d.setFour(4, true, 2000, -2000, 2000, -2000), 16000030);
        row(d, 4, 1, -2, 3, -4, 2000, -2000, 2000, -2000);
        for (int r : NO_REGISTERS) {
            refuses(d, INDEX, () -> d.setFour(r, false, 0, 0, 0, 0));
            refuses(d, INDEX, () -> d.setFour(r, true, 2001, 0, 0, 0));
        }
        refuses(d, ARGUMENT, () -> d.setFour(0, false, 2001, 0, 0, 0));
        refuses(d, ARGUMENT, () -> d.setFour(0, false, 0, -2001, 0, 0));
        refuses(d, ARGUMENT, () -> d.setFour(0, true, 0, 0, 2001, 0));
        refuses(d, ARGUMENT, () -> d.setFour(0, true, 0, 0, 0, Integer.MIN_VALUE));
    }

    private static void setOrder() {
        promise = 4;
        OctavianDesk d = new OctavianDesk();
        is("setOrder(7)", d.setOrder(7), 1);
        is("setOrder(0)", d.setOrder(0), 7);
        is("setOrder(0)", d.setOrder(0), 0);
        is("value(0)", d.value(0), 0);
        for (int n : NO_REGISTERS) {
            refuses(d, ARGUMENT, () -> d.setOrder(n));
        }
    }

    private static void load() {
        promise = 5;
        OctavianDesk d = new OctavianDesk();
        is("load(0, 5)", d.load(0, 5), -2);
        row(d, 5, -2, 0, 0, 0, 0, 0, 0, 0);
        is("load(239, 5)", d.load(239, 5), 2);
        is("load(1, 5)", d.load(1, 5), -1);
        row(d, 5, -1, -1, -1, 0, -1, 0, 0, 0);
        for (int order = 0; order < 8; order++) {
            d.setOrder(order);
            int units = d.value(1);
            int[] before = new int[8];
            before[0] = -3;
            for (int u = 0; u < units; u++) {
                d.load(u, 6);
                is("norm of a unit", d.norm(6), 4);
                is("whether the order has its unit", (d.ordersOf(6) >> order) & 1, 1);
                int[] now = new int[8];
                for (int i = 0; i < 8; i++) {
                    now[i] = d.coordinate(6, i);
                }
                is("whether the row comes later", Arrays.compare(before, now) < 0, true);
                before = now;
                // A desk is good for 512 calls.
                if (u % 16 == 15) {
                    d = new OctavianDesk();
                    d.setOrder(order);
                }
            }
        }
        OctavianDesk e = new OctavianDesk();
        for (int r : NO_REGISTERS) {
            refuses(e, INDEX, () -> e.load(0, r));
        }
        for (int u : new int[] {-1, 240, Integer.MIN_VALUE, Integer.MAX_VALUE}) {
            refuses(e, INDEX, () -> e.load(u, 0));
        }
        e.setOrder(0);
        refuses(e, INDEX, () -> e.load(16, 0));
        is("load(15, 0)", e.load(15, 0), 2);
        is("load(8, 0)", e.load(8, 0), 0);
        row(e, 0, 0, 0, 0, 0, 0, 0, 0, 2);
    }

    private static void add() {
        promise = 6;
        OctavianDesk d = new OctavianDesk();
        put(d, 0, 1, 2, 3, 4, 5, 6, 7, 8);
        put(d, 1, 8, 7, 6, 5, 4, 3, 2, 1);
        is("add", d.add(0, 1, 2, false), 8 * 81);
        row(d, 2, 9, 9, 9, 9, 9, 9, 9, 9);
        is("subtract onto itself", d.add(0, 1, 0, true), 168);
        row(d, 0, -7, -5, -3, -1, 1, 3, 5, 7);
        is("a - a", d.add(1, 1, 1, true), 0);
        is("value(2)", d.value(2), 0);
        d.set(3, 3, 2000);
        d.set(4, 3, 1);
        refuses(d, ARITHMETIC, () -> d.add(3, 4, 5, false));
        is("1999 fits", d.add(3, 4, 5, true), 1999L * 1999 + 4);
        d.set(6, 3, -2000);
        refuses(d, ARITHMETIC, () -> d.add(6, 4, 5, true));
        for (int r : NO_REGISTERS) {
            refuses(d, INDEX, () -> d.add(r, 0, 0, false));
            refuses(d, INDEX, () -> d.add(0, r, 0, true));
            refuses(d, INDEX, () -> d.add(3, 3, r, false));
        }
    }

    private static void multiply() {
        promise = 7;
        int[][] triples = {{1, 2, 4}, {2, 3, 5}, {3, 4, 6}, {4, 5, 7}, {5, 6, 1}, {6, 7, 2}, {7, 1, 3}};
        for (int[] t : triples) {
            for (int turn = 0; turn < 3; turn++) {
                int i = t[turn];
                int j = t[(turn + 1) % 3];
                int k = t[(turn + 2) % 3];
                OctavianDesk d = new OctavianDesk();
                int[] due = new int[8];
                due[k] = 2;
                is("ei ej", d.multiply(i, j, 0), 4);
                row(d, 0, due);
                due[k] = -2;
                d.multiply(j, i, 0);
                row(d, 0, due);
            }
        }
        OctavianDesk d = new OctavianDesk();
        is("e0 e5", d.multiply(0, 5, 1), 4);
        row(d, 1, 0, 0, 0, 0, 0, 2, 0, 0);
        is("e5 e5 onto itself", d.multiply(5, 5, 5), 4);
        row(d, 5, -2, 0, 0, 0, 0, 0, 0, 0);
        is("value(2)", d.value(2), 2);
        put(d, 2, 1, 1, 1, 0, 1, 0, 0, 0);
        put(d, 3, 1, 0, 0, 1, 0, 0, 0, 0);
        is("halves", d.multiply(2, 2, 4), 4);
        row(d, 4, -1, 1, 1, 0, 1, 0, 0, 0);
        refuses(d, ARITHMETIC, () -> d.multiply(2, 3, 4));
        put(d, 6, 2000, 0, 0, 0, 0, 0, 0, 0);
        put(d, 7, 0, 0, 0, 0, 0, 0, 0, 3);
        refuses(d, ARITHMETIC, () -> d.multiply(6, 7, 4));
        d.set(7, 7, -2);
        is("2000 fits", d.multiply(6, 7, 4), 4000000);
        for (int r : NO_REGISTERS) {
            refuses(d, INDEX, () -> d.multiply(r, 6, 0));
            refuses(d, INDEX, () -> d.multiply(6, r, 0));
            refuses(d, INDEX, () -> d.multiply(6, 6, r));
        }
    }

    private static void conjugate() {
        promise = 8;
        OctavianDesk d = new OctavianDesk();
        put(d, 2, -7, 1, -2, 3, -4, 5, -2000, 0);
        is("conjugate(2)", d.conjugate(2), -7);
        row(d, 2, -7, -1, 2, -3, 4, -5, 2000, 0);
        is("conjugate(0)", d.conjugate(0), 2);
        for (int r : NO_REGISTERS) {
            refuses(d, INDEX, () -> d.conjugate(r));
        }
    }

    private static void commutator() {
        promise = 9;
        OctavianDesk d = new OctavianDesk();
        is("[e1, e2]", d.commutator(1, 2, 1), 16);
        row(d, 1, 0, 0, 0, 0, 4, 0, 0, 0);
        is("[e2, e2]", d.commutator(2, 2, 3), 0);
        put(d, 4, 2000, 1, 0, 0, 0, 0, 0, 0);
        put(d, 5, 2000, 0, 1, 0, 0, 0, 0, 0);
        is("just the result has to fit", d.commutator(4, 5, 6), 1);
        row(d, 6, 0, 0, 0, 0, 1, 0, 0, 0);
        is("value(2)", d.value(2), 0);
        put(d, 4, 0, 2000, 0, 0, 0, 0, 0, 0);
        d.set(5, 2, 2);
        refuses(d, ARITHMETIC, () -> d.commutator(4, 5, 7));
        d.set(4, 1, -1000);
        is("2000 fits", d.commutator(4, 5, 7), 4000000);
        for (int r : NO_REGISTERS) {
            refuses(d, INDEX, () -> d.commutator(r, 0, 0));
            refuses(d, INDEX, () -> d.commutator(0, r, 0));
            refuses(d, INDEX, () -> d.commutator(0, 0, r));
        }
    }

    private static void associator() {
        promise = 10;
        OctavianDesk d = new OctavianDesk();
        is("[e1, e2, e3]", d.associator(1, 2, 3, 3), 16);
        row(d, 3, 0, 0, 0, 0, 0, 0, -4, 0);
        is("[e1, e2, e4]", d.associator(1, 2, 4, 0), 0);
        is("value(2)", d.value(2), 0);
        put(d, 1, 2000, 1, 0, 0, 0, 0, 0, 0);
        put(d, 2, 2000, 0, 2, 0, 0, 0, 0, 0);
        put(d, 3, 2000, 0, 0, 1, 0, 0, 0, 0);
        is("just the result has to fit", d.associator(1, 2, 3, 4), 1);
        row(d, 4, 0, 0, 0, 0, 0, 0, -1, 0);
        d.set(2, 2, 1);
        refuses(d, ARITHMETIC, () -> d.associator(1, 2, 3, 4));
        d.set(1, 1, 2000);
        d.set(2, 2, 4);
        refuses(d, ARITHMETIC, () -> d.associator(1, 2, 3, 4));
        d.set(2, 2, 2);
        is("2000 fits", d.associator(1, 2, 3, 4), 4000000);
        for (int r : NO_REGISTERS) {
            refuses(d, INDEX, () -> d.associator(r, 0, 0, 0));
            refuses(d, INDEX, () -> d.associator(0, r, 0, 0));
            refuses(d, INDEX, () -> d.associator(0, 0, r, 0));
            refuses(d, INDEX, () -> d.associator(0, 0, 0, r));
        }
    }

    private static void divide() {
        promise = 11;
        OctavianDesk d = new OctavianDesk();
        put(d, 0, 14, 0, 0, 0, 0, 0, 0, 0);
        put(d, 1, 4, 0, 0, 0, 0, 0, 0, 0);
        // 7 / 2: in the order 1 nothing is nearer to 3.5 than 3 and 4, and the lower row comes first.
        is("7 / 2", d.divide(0, 1, 2, 3), 4);
        row(d, 2, 6, 0, 0, 0, 0, 0, 0, 0);
        row(d, 3, 2, 0, 0, 0, 0, 0, 0, 0);
        is("value(3)", d.value(3), 1);
        is("value(2)", d.value(2), 0);
        d.set(0, 0, -14);
        is("-7 / 2", d.divide(0, 1, 2, 3), 4);
        row(d, 2, -8, 0, 0, 0, 0, 0, 0, 0);
        row(d, 3, 2, 0, 0, 0, 0, 0, 0, 0);
        // Half of e0 + e1 + e2 + e4 is in the order 1, so the division by 2 leaves nothing; in the order 0 it leaves all.
        put(d, 0, 2, 2, 2, 0, 2, 0, 0, 0);
        is("in the order 1", d.divide(0, 1, 4, 5), 0);
        row(d, 4, 1, 1, 1, 0, 1, 0, 0, 0);
        d.setOrder(0);
        is("in the order 0", d.divide(0, 1, 0, 1), 16);
        row(d, 0, 0, 0, 0, 0, 0, 0, 0, 0);
        row(d, 1, 2, 2, 2, 0, 2, 0, 0, 0);
        divideTies();
        divideRefused();
        divideBack();
    }

    /** Of equally near elements with other odd coordinates, too, the one whose row comes first is the quotient. */
    private static void divideTies() {
        OctavianDesk d = new OctavianDesk();
        put(d, 1, 4, 0, 0, 0, 0, 0, 0, 0);
        put(d, 0, 2, 2, 0, 0, 0, 0, 0, 0);
        is("0 is as near as e0, e1 and halves", d.divide(0, 1, 2, 3), 8);
        row(d, 2, 0, 0, 0, 0, 0, 0, 0, 0);
        put(d, 0, 4, 2, 2, 0, 0, 0, 0, 0);
        is("a row of halves comes first", d.divide(0, 1, 2, 3), 8);
        row(d, 2, 1, 1, 1, 0, -1, 0, 0, 0);
        row(d, 3, 2, 0, 0, 0, 2, 0, 0, 0);
    }

    private static void divideRefused() {
        OctavianDesk d = new OctavianDesk();
        put(d, 6, 0, 0, 0, 0, 0, 0, 0, 0);
        put(d, 7, 1, 0, 0, 0, 0, 0, 0, 0);
        refuses(d, STATE, () -> d.divide(0, 6, 1, 2));
        refuses(d, STATE, () -> d.divide(7, 0, 1, 2));
        refuses(d, STATE, () -> d.divide(0, 7, 1, 2));
        refuses(d, ARGUMENT, () -> d.divide(7, 6, 1, 1));
        is("0 / e1", d.divide(6, 1, 6, 2), 0);
        for (int r : NO_REGISTERS) {
            refuses(d, INDEX, () -> d.divide(r, 6, 1, 1));
            refuses(d, INDEX, () -> d.divide(7, r, 1, 1));
            refuses(d, INDEX, () -> d.divide(7, 6, r, 1));
            refuses(d, INDEX, () -> d.divide(7, 6, 1, r));
        }
        // The unit is all of -1/2 or 1/2 in four coordinates, so the quotient of 1000s grows to 2000 and is too large.
        put(d, 0, 2000, 2000, 2000, 2000, 2000, 2000, 2000, 2000);
        d.load(3, 1);
        refuses(d, ARITHMETIC, () -> d.divide(0, 1, 2, 3));
        refuses(d, ARITHMETIC, () -> d.divide(0, 1, 1, 0));
        // Here the quotient fits, and the remainder alone is too large.
        put(d, 0, -1646, 936, -2000, 2000, -2000, -2000, 2000, -2000);
        put(d, 1, -2000, 2000, 2000, 2000, -2000, -2000, -2000, 2000);
        refuses(d, ARITHMETIC, () -> d.divide(0, 1, 2, 3));
    }

    /** For many divisions: q b + r is a again, and the remainder is not larger than half of b. */
    private static void divideBack() {
        for (int order = 1; order < 8; order++) {
            OctavianDesk d = new OctavianDesk();
            d.setOrder(order);
            for (int n = 0; n < 25; n++) {
                d.load((37 * n + 11) % 240, 1);
                d.load((91 * n + 5) % 240, 2);
                is("carry", carryShort(d, 9, 7), 2);
                long norm = d.divide(0, 3, 4, 5);
                is("norm of the remainder", norm, d.norm(5));
                is("whether it is at most half", 2 * norm <= d.norm(3), true);
                d.multiply(4, 3, 6);
                d.add(6, 5, 6, false);
                d.add(6, 0, 6, true);
                is("q b + r - a", d.norm(6), 0);
                d = new OctavianDesk();
                d.setOrder(order);
            }
        }
    }

    private static int carryShort(OctavianDesk d, int m, int n) {
        return carry(d, "a=" + m + "b*c-" + n + "c+b;d=" + (n - 4) + "c*b'+" + (m - 7) + "c;");
    }

    private static void values() {
        OctavianDesk d = new OctavianDesk();
        put(d, 0, -1, 2, -3, 4, -5, 6, -7, 2000);
        put(d, 1, 1, 1, 1, 1, 1, 1, 1, -2000);
        promise = 12;
        is("coordinate", d.coordinate(0, 7), 2000);
        is("coordinate", d.coordinate(0, 6), -7);
        promise = 13;
        is("norm", d.norm(0), 4000140);
        promise = 14;
        is("dot", d.dot(0, 1), -4000004);
        is("dot of itself", d.dot(0, 0), 4000140);
        promise = 15;
        is("ordersOf 0, 2, 4, 6", d.ordersOf(0), 32);
        is("ordersOf a basis element", d.ordersOf(7), 255);
        put(d, 2, 1, 1, 1, 0, 1, 0, 0, 0);
        is("ordersOf 0, 1, 2, 4", d.ordersOf(2), 22);
        put(d, 2, 0, 0, 0, 1, 0, 1, 1, 1);
        is("ordersOf 3, 5, 6, 7", d.ordersOf(2), 22);
        put(d, 2, 1, 1, 1, 1, -1, -1, -1, 1);
        is("ordersOf all odd", d.ordersOf(2), 254);
        put(d, 2, 1, 0, 0, 0, 0, 0, 0, 0);
        is("ordersOf one odd", d.ordersOf(2), 0);
        put(d, 2, 0, 0, 1, 0, 1, 1, 1, 0);
        is("ordersOf 2, 4, 5, 6", d.ordersOf(2), 138);
        for (int r : NO_REGISTERS) {
            promise = 12;
            refuses(d, INDEX, () -> d.coordinate(r, 0));
            refuses(d, INDEX, () -> d.coordinate(0, r));
            promise = 13;
            refuses(d, INDEX, () -> d.norm(r));
            promise = 14;
            refuses(d, INDEX, () -> d.dot(r, 0));
            refuses(d, INDEX, () -> d.dot(0, r));
            promise = 15;
            refuses(d, INDEX, () -> d.ordersOf(r));
        }
    }

    private static void left() {
        promise = 16;
        OctavianDesk d = new OctavianDesk();
        put(d, 0, 1, 2, 3, 4, 5, 6, 7, 8);
        is("row 0 of column 0", d.left(0, 0, 0), 1);
        is("row 7 of column 0", d.left(0, 7, 0), 8);
        is("row 0 of column 3", d.left(0, 0, 3), -4);
        // e1 e2 is e4 and e7 e6 is minus e2.
        is("row 4 of column 2", d.left(0, 4, 2), 2);
        is("row 2 of column 6", d.left(0, 2, 6), -8);
        for (int column = 0; column < 8; column++) {
            d.add(1, 1, 1, true);
            d.set(1, column, 2);
            d.multiply(0, 1, 2);
            for (int row = 0; row < 8; row++) {
                is("left", d.left(0, row, column), d.coordinate(2, row));
            }
        }
        for (int r : NO_REGISTERS) {
            refuses(d, INDEX, () -> d.left(r, 0, 0));
            refuses(d, INDEX, () -> d.left(0, r, 0));
            refuses(d, INDEX, () -> d.left(0, 0, r));
        }
    }

    private static void unitOf() {
        promise = 17;
        OctavianDesk d = new OctavianDesk();
        for (int u = 0; u < 240; u++) {
            d.load(u, 4);
            is("unitOf", d.unitOf(4), u);
        }
        OctavianDesk e = new OctavianDesk();
        put(e, 4, 1, 1, 1, 0, 1, 0, 0, 0);
        is("in the order 1", e.unitOf(4), 238);
        e.setOrder(2);
        is("in the order 2", e.unitOf(4), 238);
        e.setOrder(3);
        is("not in the order 3", e.unitOf(4), OctavianDesk.NONE);
        e.setOrder(0);
        is("not in the order 0", e.unitOf(4), OctavianDesk.NONE);
        is("e0 in the order 0", e.unitOf(0), 15);
        is("e7 in the order 0", e.unitOf(7), 8);
        e.set(7, 0, 2);
        is("the norm 2", e.unitOf(7), OctavianDesk.NONE);
        e.set(7, 7, 2000);
        is("a large one", e.unitOf(7), OctavianDesk.NONE);
        for (int r : NO_REGISTERS) {
            refuses(e, INDEX, () -> e.unitOf(r));
        }
    }

    private static void value() {
        promise = 18;
        OctavianDesk d = new OctavianDesk();
        is("units of the order 1", d.value(1), 240);
        d.setOrder(0);
        is("the order", d.value(0), 0);
        is("units of the order 0", d.value(1), 16);
        d.set(1, 0, 1);
        d.set(2, 2, 0);
        d.set(3, 3, 0);
        is("registers in the order", d.value(4), 7);
        is("registers that are 0", d.value(5), 2);
        d.multiply(4, 5, 6);
        is("two assignments, three products", carry(d, "a=b*c'*(d+e*f);h=e;"), 2);
        is("multiplications", d.value(2), 4);
        is("the second one is not carried out", carry(d, "a=e*f;c=e*f*(b*b);"), 1);
        is("multiplications of carried out assignments", d.value(2), 5);
        d.divide(4, 5, 6, 7);
        d.divide(4, 5, 6, 7);
        is("divisions", d.value(3), 2);
        is("steps", d.steps(4, 5), 1);
        is("divisions by divide() alone", d.value(3), 2);
        refuses(d, ARGUMENT, () -> d.value(-1));
        refuses(d, ARGUMENT, () -> d.value(6));
    }

    private static void dimension() {
        promise = 19;
        OctavianDesk d = new OctavianDesk();
        is("e0", d.dimension(1), 1);
        is("e0, e1", d.dimension(3), 2);
        is("e7", d.dimension(128), 2);
        is("e1, e2", d.dimension(6), 4);
        is("e1, e2, e4", d.dimension(22), 4);
        is("e1, e2, e3", d.dimension(14), 8);
        is("all", d.dimension(255), 8);
        put(d, 1, 7, 2000, -1999, 3, 0, 0, 0, 0);
        put(d, 2, -5, -1000, 1000, -1, 0, 0, 0, 0);
        is("nearly parallel", d.dimension(6), 4);
        put(d, 2, -5, -2000, 1999, -3, 0, 0, 0, 0);
        is("parallel", d.dimension(6), 2);
        is("0 and e0", d.add(3, 3, 3, true), 0);
        is("0 and e0", d.dimension(9), 1);
        is("0", d.dimension(8), 1);
        put(d, 4, 1, 2000, 1999, 1998, 1997, 1996, 1995, 1994);
        put(d, 5, 3, 1, 2, 3, 4, 5, 6, 8);
        is("two large ones", d.dimension(48), 4);
        is("their difference", d.add(4, 5, 6, true) > 0, true);
        is("with their difference", d.dimension(112), 4);
        d.set(6, 7, 1985);
        is("with another one", d.dimension(112), 8);
        dimensionOfLargeOnes();
        refuses(d, ARGUMENT, () -> d.dimension(0));
        refuses(d, ARGUMENT, () -> d.dimension(256));
        refuses(d, ARGUMENT, () -> d.dimension(-1));
        refuses(d, ARGUMENT, () -> d.dimension(Integer.MIN_VALUE));
    }

    /** Three that do not associate, with associators whose squares add up to multiples of 2 to the 64th. */
    private static OctavianDesk largeOnes(int x, int y, int z) {
        OctavianDesk d = new OctavianDesk();
        put(d, 0, 0, x, x, 0, 0, 0, 0, 0);
        put(d, 1, 0, y, -y, 0, 0, 0, 0, 0);
        put(d, 2, 0, 0, 0, z, 0, 0, 0, 0);
        return d;
    }

    private static final int[][] LARGE = {{1024, 1024, 1024}, {-1024, 1024, 1024}, {1024, 1536, 1024}, {512, 1024, -1024}, {2000, 2000, 2000}};

    private static void dimensionOfLargeOnes() {
        for (int[] x : LARGE) {
            OctavianDesk d = largeOnes(x[0], x[1], x[2]);
            is("large ones", d.dimension(7), 8);
            is("two of the large ones", d.dimension(3), 4);
            is("e0 and the third of the large ones", d.dimension(4), 2);
            put(d, 2, 1024, 0, 0, 0, 1024, 0, 0, 0);
            is("one in the subalgebra of the two", d.dimension(7), 4);
        }
    }

    private static void commuteAndAssociate() {
        OctavianDesk d = new OctavianDesk();
        put(d, 1, 5, 2, -4, 0, 0, 0, 0, 6);
        put(d, 2, 9, -3, 6, 0, 0, 0, 0, -9);
        promise = 20;
        is("parallel ones", d.commute(1, 2), true);
        is("with the one", d.commute(3, 0), true);
        is("with itself", d.commute(5, 5), true);
        is("e3, e4", d.commute(3, 4), false);
        d.set(2, 7, -8);
        is("nearly parallel ones", d.commute(1, 2), false);
        promise = 21;
        is("by two", d.associate(1, 2, 1), true);
        is("with the one", d.associate(0, 3, 7), true);
        is("e3, e4, e6", d.associate(3, 4, 6), true);
        is("e3, e4, e5", d.associate(3, 4, 5), false);
        put(d, 1, 2000, 2000, 0, 0, 0, 0, 0, 0);
        put(d, 2, 2000, 0, 2000, 0, 0, 0, 0, 0);
        is("large ones", d.associate(1, 2, 4), true);
        d.set(4, 3, 1);
        is("large ones and a half", d.associate(1, 2, 4), false);
        for (int[] x : LARGE) {
            OctavianDesk large = largeOnes(x[0], x[1], x[2]);
            is("large ones whose squares wrap round", large.associate(0, 1, 2), false);
            is("the same ones turned", large.associate(2, 0, 1), false);
            is("two of them", large.associate(0, 1, 0), true);
            refuses(large, ARITHMETIC, () -> large.associator(0, 1, 2, 3));
        }
        for (int r : NO_REGISTERS) {
            promise = 20;
            refuses(d, INDEX, () -> d.commute(r, 0));
            refuses(d, INDEX, () -> d.commute(0, r));
            promise = 21;
            refuses(d, INDEX, () -> d.associate(r, 0, 0));
            refuses(d, INDEX, () -> d.associate(0, r, 0));
            refuses(d, INDEX, () -> d.associate(0, 0, r));
        }
    }

    private static void elements() {
        promise = 22;
        OctavianDesk d = new OctavianDesk();
        is("elements(0)", d.elements(0), 1);
        is("elements(1)", d.elements(1), 240);
        is("elements(4)", d.elements(4), 17520);
        is("elements(1000)", d.elements(1000), 276430190400L);
        d.setOrder(0);
        is("elements(0)", d.elements(0), 1);
        is("elements(1)", d.elements(1), 16);
        is("elements(4)", d.elements(4), 1136);
        is("elements(1000)", d.elements(1000), 18365675328L);
        refuses(d, ARGUMENT, () -> d.elements(-1));
        refuses(d, ARGUMENT, () -> d.elements(1001));
        refuses(d, ARGUMENT, () -> d.elements(Integer.MIN_VALUE));
    }

    private static void euclid() {
        OctavianDesk d = new OctavianDesk();
        put(d, 0, 2000, 0, 0, 0, 0, 0, 0, 0);
        put(d, 1, 14, 0, 0, 0, 0, 0, 0, 0);
        promise = 23;
        // 1000 = 143 * 7 - 1, 7 = -7 * -1.
        is("1000, 7", d.steps(0, 1), 2);
        is("7, 1000", d.steps(1, 0), 3);
        promise = 24;
        is("1000, 7", d.lastNorm(0, 1), 4);
        put(d, 1, 0, 0, 16, 0, 0, 0, 0, 0);
        is("1000, 8", d.lastNorm(0, 1), 256);
        is("8, 1000", d.lastNorm(1, 0), 256);
        promise = 23;
        is("1000, 8", d.steps(0, 1), 1);
        put(d, 0, 2000, 2000, 2000, 2000, 2000, 2000, 2000, 2000);
        d.load(3, 1);
        is("the quotient need not fit", d.steps(0, 1), 1);
        euclidLong();
        OctavianDesk e = new OctavianDesk();
        put(e, 6, 0, 0, 0, 0, 0, 0, 0, 0);
        put(e, 7, 1, 0, 0, 0, 0, 0, 0, 0);
        is("0, e1", e.steps(6, 1), 1);
        promise = 24;
        is("0, e1", e.lastNorm(6, 1), 4);
        int[][] refused = {{0, 6}, {7, 0}, {0, 7}, {7, 6}};
        for (int[] x : refused) {
            promise = 23;
            refuses(e, STATE, () -> e.steps(x[0], x[1]));
            promise = 24;
            refuses(e, STATE, () -> e.lastNorm(x[0], x[1]));
        }
        for (int r : NO_REGISTERS) {
            promise = 23;
            refuses(e, INDEX, () -> e.steps(r, 6));
            refuses(e, INDEX, () -> e.steps(7, r));
            promise = 24;
            refuses(e, INDEX, () -> e.lastNorm(r, 6));
            refuses(e, INDEX, () -> e.lastNorm(7, r));
        }
    }

    /** These two pairs were built from the last division backwards: one takes 40 divisions, the other one more. */
    private static void euclidLong() {
        OctavianDesk d = new OctavianDesk();
        d.setOrder(0);
        put(d, 0, -20, 0, -38, -18, 20, -38, -18, -38);
        put(d, 1, 20, 20, -20, -18, -20, -20, 20, -58);
        put(d, 2, 20, -20, 58, 20, 20, -20, -20, 18);
        put(d, 3, 20, -40, -2, 0, 20, 20, 0, -60);
        promise = 23;
        is("40 divisions", d.steps(0, 1), 40);
        is("41 divisions", d.steps(2, 3), OctavianDesk.NONE);
        promise = 24;
        is("40 divisions", d.lastNorm(0, 1), 4);
        is("41 divisions", d.lastNorm(2, 3), OctavianDesk.NONE);
    }

    private static void commuting() {
        promise = 25;
        OctavianDesk d = new OctavianDesk();
        is("e0", d.commuting(0), 240);
        // Among the units only plus and minus e0 and e1 lie in the plane of these two.
        is("e1", d.commuting(1), 4);
        put(d, 2, 2000, 1, 1, 0, 1, 0, 0, 0);
        // Half of (plus or minus 1) with all of e1, e2, e4: six units, with plus and minus 1.
        is("e1 + e2 + e4", d.commuting(2), 6);
        put(d, 3, 1, 1, 0, 0, 0, 0, 0, 0);
        is("not in the order", d.commuting(3), 4);
        put(d, 3, 0, 1, 2, 3, 0, 0, 0, 0);
        is("the one alone", d.commuting(3), 2);
        d.setOrder(0);
        is("e0 in the order 0", d.commuting(0), 16);
        is("e1 + e2 + e4 in the order 0", d.commuting(2), 2);
        for (int r : NO_REGISTERS) {
            refuses(d, INDEX, () -> d.commuting(r));
        }
    }

    private static void text() {
        promise = 26;
        OctavianDesk d = new OctavianDesk();
        refuses(d, ARGUMENT, () -> d.append(-1));
        refuses(d, ARGUMENT, () -> d.append(128));
        is("append(0)", d.append(0), 1);
        is("append(127)", d.append(127), 2);
        for (int n = 3; n <= 100; n++) {
            is("append", d.append('a'), n);
        }
        refuses(d, STATE, () -> d.append('a'));
        refuses(d, ARGUMENT, () -> d.append(128));
        refuses(d, STATE, () -> d.undo());
        promise = 27;
        is("clearText()", d.clearText(), 100);
        is("clearText()", d.clearText(), 0);
        is("append after it", d.append('a'), 1);
        is("the text was emptied", carry(d, "b=c;"), 1);
        // Twenty-five assignments fill the text.
        is("a whole text", carry(d, "a=b;".repeat(25)), 25);
    }

    private static void syntax() {
        promise = 28;
        syntaxError("i", 0);
        syntaxError("A", 0);
        syntaxError("=", 0);
        syntaxError(";", 0);
        syntaxError("1", 0);
        syntaxError(" a=b;", 0);
        syntaxError("a", 1);
        syntaxError("a=", 2);
        syntaxError("ab", 1);
        syntaxError("a=;", 2);
        syntaxError("a=b", 3);
        syntaxError("a=b;;", 4);
        syntaxError("a=b;c", 5);
        syntaxError("a=0b;", 2);
        syntaxError("a=12b;", 3);
        syntaxError("a=9", 3);
        syntaxError("a=9'b;", 3);
        syntaxError("a='b;", 2);
        syntaxError("a=b'2;", 4);
        syntaxError("a=bc;", 3);
        syntaxError("a=b2;", 3);
        syntaxError("a=b(c);", 3);
        syntaxError("a=(b;", 4);
        syntaxError("a=(b", 4);
        syntaxError("a=(b));", 5);
        syntaxError("a=();", 3);
        syntaxError("a=b+;", 4);
        syntaxError("a=+b;", 2);
        syntaxError("a=b-*c;", 4);
        syntaxError("a=b*", 4);
        syntaxError("a=b==c;", 3);
        syntaxError("a=i;", 2);
        syntaxError("a=b ;", 3);
        syntaxError("a=2(b)3;", 6);
        syntaxError("a=((((((b))))));", OctavianDesk.NONE);
        syntaxError("a=(((((((b)))))));", 8);
        syntaxError("a=((((((b))))+(((c);", 19);
        syntaxError("a=((((((b)+(c", 13);
        syntaxError("a=b/c;", 3);
        syntaxError("a=b\0", 3);
        syntaxError("a=b\u007f;", 3);
        syntaxError("h=2(2(2(2(2(2(a'*b)'+c)-d)*e)'))''';", OctavianDesk.NONE);
        syntaxError("a=1i;", 3);
        syntaxError("a=1(;", 4);
    }

    private static void syntaxError(String text, int due) {
        syntaxError(new OctavianDesk(), text, due);
        // What was open in a text before must not count in this one.
        OctavianDesk d = new OctavianDesk();
        carry(d, "a=b*((c");
        syntaxError(d, text, due);
    }

    private static void syntaxError(OctavianDesk d, String text, int due) {
        write(d, text);
        long before = d.digest();
        int got = d.carryOut();
        is("carryOut() of " + text, got < 0 ? -10 - got : OctavianDesk.NONE, due);
        if (got < 0) {
            is("a syntax error changes nothing", d.digest(), before);
        }
    }

    private static void carryOut() {
        promise = 28;
        OctavianDesk d = new OctavianDesk();
        is("no assignments", d.carryOut(), 0);
        is("one saved state all the same", d.undo(), 0);
        is("a digit behind apostrophes", carry(d, "a=3b';c=2(b*c+d)';b=b-b;d=e'''';"), 4);
        row(d, 0, 0, -6, 0, 0, 0, 0, 0, 0);
        row(d, 2, 0, 0, 0, -4, -4, 0, 0, 0);
        row(d, 1, 0, 0, 0, 0, 0, 0, 0, 0);
        row(d, 3, 0, 0, 0, 0, 2, 0, 0, 0);
        is("the text stays", d.clearText(), 32);
        is("one saved state", d.undo(), 0);
        row(d, 0, 2, 0, 0, 0, 0, 0, 0, 0);
        // (e1 e2) e3 is e4 e3, minus e6; e1 (e2 e3) is e1 e5, e6. Products before sums, and from left to right.
        is("from left to right", carry(d, "a=b*c*d;f=b*(c*d);e=b+c*d-b-c*d;g=2b*3c;"), 4);
        row(d, 0, 0, 0, 0, 0, 0, 0, -2, 0);
        row(d, 5, 0, 0, 0, 0, 0, 0, 2, 0);
        row(d, 4, 0, 0, 0, 0, 0, 0, 0, 0);
        row(d, 6, 0, 0, 0, 0, 12, 0, 0, 0);
        is("the text is carried out again", d.carryOut(), 4);
        carryOutFails();
    }

    private static void carryOutFails() {
        OctavianDesk d = new OctavianDesk();
        put(d, 0, 2000, 0, 0, 0, 0, 0, 0, 0);
        put(d, 1, 1, 0, 0, 0, 0, 0, 0, 0);
        is("a sum on the way", carry(d, "c=a+b-b;"), 0);
        is("the other order", carry(d, "c=a-b+b;"), 1);
        is("a multiple on the way", carry(d, "c=2a-a;"), 0);
        is("a difference on the way", carry(d, "c=(b-b)-a-b+b;"), 0);
        is("a multiple in a later term", carry(d, "c=b+2a;"), 0);
        is("a multiple in a later factor", carry(d, "c=b*2a;"), 0);
        is("half of a half on the way", carry(d, "c=4(b*b);"), 0);
        is("4 times a half first", carry(d, "c=4b*b;"), 1);
        row(d, 2, 2, 0, 0, 0, 0, 0, 0, 0);
        is("a product on the way", carry(d, "c=a*a-a*a;"), 0);
        is("up to the first one", carry(d, "d=b;e=d+d;f=2a;g=b;h=b;"), 2);
        row(d, 3, 1, 0, 0, 0, 0, 0, 0, 0);
        row(d, 4, 2, 0, 0, 0, 0, 0, 0, 0);
        row(d, 5, 0, 0, 0, 0, 0, 2, 0, 0);
        row(d, 6, 0, 0, 0, 0, 0, 0, 2, 0);
        is("the least one", carry(d, "c=(b-b)-a;"), 1);
        row(d, 2, -2000, 0, 0, 0, 0, 0, 0, 0);
        // In brackets of other depths nothing is lost of what waits outside.
        OctavianDesk e = new OctavianDesk();
        is("brackets", carry(e, "a=b+(c*(d+(e-f))+(g))*2(h-(b));"), 1);
        OctavianDesk f = new OctavianDesk();
        f.add(4, 5, 0, true);
        f.add(3, 0, 0, false);
        f.multiply(2, 0, 0);
        f.add(0, 6, 0, false);
        f.add(7, 1, 2, true);
        f.add(2, 2, 2, false);
        f.multiply(0, 2, 0);
        f.add(1, 0, 0, false);
        for (int i = 0; i < 8; i++) {
            is("brackets", e.coordinate(0, i), f.coordinate(0, i));
        }
        is("value(2)", e.value(2), 2);
    }

    private static void undo() {
        promise = 29;
        OctavianDesk d = new OctavianDesk();
        refuses(d, STATE, () -> d.undo());
        long[] digests = new long[7];
        for (int n = 1; n <= 6; n++) {
            digests[n] = d.digest() - Math.min(n - 1, 4);
            d.set(n, 0, n);
        }
        write(d, "abc");
        for (int left = 3; left >= 0; left--) {
            is("undo()", d.undo(), left);
            d.clearText();
            is("digest", d.digest() - left, digests[3 + left]);
        }
        refuses(d, STATE, () -> d.undo());
        row(d, 2, 2, 0, 2, 0, 0, 0, 0, 0);
        row(d, 3, 0, 0, 0, 2, 0, 0, 0, 0);
        undoAll();
    }

    private static void undoAll() {
        OctavianDesk[] desk = new OctavianDesk[1];
        Call[] undoable = {() -> desk[0].set(0, 0, 2), () -> desk[0].set(0, 1, 5), () -> desk[0].setFour(1, true, 1, 2, 3, 4),
            () -> desk[0].setOrder(1), () -> desk[0].setOrder(0), () -> desk[0].load(9, 3), () -> desk[0].add(0, 1, 2, false),
            () -> desk[0].multiply(1, 2, 3), () -> desk[0].conjugate(0), () -> desk[0].conjugate(5), () -> desk[0].commutator(1, 2, 3),
            () -> desk[0].associator(1, 2, 3, 4), () -> desk[0].divide(1, 2, 3, 4)};
        for (Call call : undoable) {
            desk[0] = new OctavianDesk();
            undoes(desk[0], call);
        }
        OctavianDesk d = new OctavianDesk();
        carry(d, "a=b*c;");
        d.divide(1, 2, 3, 4);
        is("undo()", d.undo(), 1);
        is("divisions", d.value(3), 0);
        is("multiplications", d.value(2), 1);
        is("undo()", d.undo(), 0);
        is("multiplications", d.value(2), 0);
        is("the text is not restored", d.clearText(), 6);
        for (int n = 0; n < 8; n++) {
            d.norm(0);
            d.unitOf(0);
            d.steps(0, 1);
            d.commuting(0);
        }
        refuses(d, STATE, () -> d.undo());
    }

    private static void digest() {
        promise = 30;
        OctavianDesk d = new OctavianDesk();
        is("digest of a new one", d.digest(), hash(d, 0, 0));
        d.append('a');
        d.append('=');
        is("with a text", d.digest(), hash(d, 2, 0));
        d.set(2, 2, 0);
        d.setOrder(5);
        d.load(100, 7);
        d.multiply(7, 7, 6);
        d.divide(7, 6, 1, 3);
        is("with values", d.digest(), hash(d, 2, 4));
        d.undo();
        is("with a state less", d.digest(), hash(d, 2, 3));
        d.setOrder(0);
        is("in the order 0", d.digest(), hash(d, 2, 4));
    }

    private static long hash(OctavianDesk d, int length, int saved) {
        long h = 3761;
        h = 31 * h + length;
        for (int what = 0; what < 6; what++) {
            h = 31 * h + d.value(what);
        }
        for (int r = 0; r < 8; r++) {
            for (int i = 0; i < 8; i++) {
                h = 31 * h + d.coordinate(r, i);
            }
            h = 31 * h + d.ordersOf(r);
            h = 31 * h + d.unitOf(r);
        }
        return 31 * h + saved;
    }
}
