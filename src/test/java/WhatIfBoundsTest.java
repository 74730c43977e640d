/** The boundaries of the promises 19 to 22, and 25. */
public final class WhatIfBoundsTest {
    private static final Checks.Script TEXT = d -> Checks.write(d, "h=a*b-2c;a=c;");

    public static void main(String[] args) {
        dimensionRange();
        dimensionOfBasis();
        dimensionOfOthers();
        commute();
        associate();
        associateLarge();
        elementsRange();
        elementsOfEdges();
        commuting();
        commutingOfEdges();
        Checks.end("WhatIfBoundsTest");
    }

    // ---- dimension

    private static void dimensionRange() {
        Checks.sentence("Promise 19: registers: 1 to 255, IllegalArgumentException if out of range");
        Checks.allowed(TEXT, d -> d.dimension(1));
        Checks.allowed(TEXT, d -> d.dimension(255));
        for (int set : new int[] {0, 256, 257, 511, -1, -255, 65536, Integer.MIN_VALUE, Integer.MAX_VALUE}) {
            Checks.refused(Checks.ARGUMENT, TEXT, d -> d.dimension(set));
        }
        Checks.sentence("Promise 19: changes nothing and is not undoable");
        Checks.quiet(TEXT, d -> d.dimension(255));
        Checks.quiet(TEXT, d -> d.dimension(1));
    }

    /** Of basis elements: none, one, two or a triple, or more. */
    private static int dimensionOf(int set) {
        int imaginary = set & ~1;
        switch (Integer.bitCount(imaginary)) {
            case 0:
                return 1;
            case 1:
                return 2;
            case 2:
                return 4;
            case 3:
                for (int[] t : Checks.TRIPLES) {
                    if (imaginary == (1 << t[0] | 1 << t[1] | 1 << t[2])) {
                        return 4;
                    }
                }
                return 8;
            default:
                return 8;
        }
    }

    private static void dimensionOfBasis() {
        Checks.sentence("Promise 19: bit r for the register r; returns 1, 2, 4 or 8");
        OctavianDesk d = new OctavianDesk();
        for (int set = 1; set < 256; set++) {
            Checks.is("dimension(" + set + ")", d.dimension(set), dimensionOf(set));
        }
        Checks.sentence("Promise 19: the register of each bit, whatever the others hold");
        for (int r = 0; r < 8; r++) {
            OctavianDesk e = new OctavianDesk();
            for (int other = 0; other < 8; other++) {
                Checks.put(e, other, Checks.only(0, other == r ? 0 : other));
            }
            e.set(r, 5, 1);
            Checks.is("all but one are real", e.dimension(255), 2);
            Checks.is("this one", e.dimension(1 << r), 2);
            Checks.is("all others", e.dimension(255 - (1 << r)), 1);
        }
    }

    private static void dimensionOfOthers() {
        Checks.sentence("Promise 19: the least subalgebra has e0, and a register that is 0 adds nothing");
        OctavianDesk d = new OctavianDesk();
        Checks.put(d, 3, new long[8]);
        Checks.is("0", d.dimension(8), 1);
        Checks.is("0 and e0", d.dimension(9), 1);
        Checks.is("0, e1", d.dimension(10), 2);
        Checks.sentence("Promise 19: parallel parts add nothing, of either sign and of any size; the coordinate 0 is free");
        Checks.put(d, 4, 2000, 0, 998, -1998, 1000, 0, 2, 2);
        Checks.put(d, 5, -1, 0, -499, 999, -500, 0, -1, -1);
        Checks.is("parallel", d.dimension(48), 2);
        for (int i = 1; i < 8; i++) {
            OctavianDesk e = new OctavianDesk();
            Checks.put(e, 4, 2000, 0, 998, -1998, 1000, 0, 2, 2);
            Checks.put(e, 5, -1, 0, -499, 999, -500, 0, -1, -1);
            e.set(5, i, e.coordinate(5, i) + 1);
            Checks.is("nearly parallel", e.dimension(48), 4);
        }
        Checks.sentence("Promise 19: products of two are in it, and a third one out of their subalgebra makes it whole");
        for (int i = 0; i < 8; i++) {
            OctavianDesk e = new OctavianDesk();
            long[] a = {3, 2000, -1999, 1998, 5, 7, -11, 13};
            long[] b = {-17, 1, 2, -3, 1997, -1000, 19, 23};
            long[] small = {1, 2, 0, -4, 6, 0, 8, 2};
            long[] other = {0, 4, 2, 0, -2, 6, 2, -8};
            Checks.put(e, 1, a);
            Checks.put(e, 2, b);
            Checks.is("two", e.dimension(6), 4);
            Checks.put(e, 5, small);
            Checks.put(e, 6, other);
            Checks.put(e, 7, Checks.halved(Checks.product(small, other)));
            Checks.is("two and their product", e.dimension(224), 4);
            e.set(7, i, e.coordinate(7, i) + 1);
            Checks.is("with another coordinate", e.dimension(224), i == 0 ? 4 : 8);
            Checks.is("two of them", e.dimension(6 + 32), 8);
        }
    }

    // ---- commute and associate

    private static void commute() {
        Checks.sentence("Promise 20: a, b: IndexOutOfBoundsException if there is no such register (0 to 7)");
        Checks.toSeven(Checks.INDEX, TEXT, (d, r) -> d.commute(r, 0));
        Checks.toSeven(Checks.INDEX, TEXT, (d, r) -> d.commute(0, r));
        Checks.sentence("Promise 20: returns whether a b is b a");
        OctavianDesk d = new OctavianDesk();
        for (int a = 0; a < 8; a++) {
            for (int b = 0; b < 8; b++) {
                Checks.is("commute(" + a + ", " + b + ")", d.commute(a, b), a == b || a == 0 || b == 0);
            }
        }
        Checks.sentence("Promise 20: 0 and each multiple commute, and what differs from it in one coordinate does not");
        for (int i = 1; i < 8; i++) {
            OctavianDesk e = new OctavianDesk();
            Checks.put(e, 1, 7, 1000, -998, 996, 2, -4, 6, 10);
            Checks.put(e, 2, -2000, -500, 499, -498, -1, 2, -3, -5);
            Checks.put(e, 3, new long[8]);
            Checks.is("a multiple", e.commute(1, 2), true);
            Checks.is("0", e.commute(1, 3), true);
            Checks.is("0", e.commute(3, 1), true);
            e.set(2, i, e.coordinate(2, i) - 1);
            Checks.is("no multiple", e.commute(1, 2), false);
            Checks.is("no multiple", e.commute(2, 1), false);
        }
        Checks.sentence("Promise 20: the products need not fit into a register");
        Checks.put(d, 1, Checks.odd(255, 2000));
        Checks.put(d, 2, Checks.odd(255, -2000));
        Checks.is("large ones", d.commute(1, 2), true);
        d.set(2, 7, -1999);
        Checks.is("large ones", d.commute(1, 2), false);
        Checks.sentence("Promise 20: changes nothing and is not undoable");
        Checks.quiet(TEXT, x -> x.commute(1, 2));
    }

    private static void associate() {
        Checks.sentence("Promise 21: a, b, c: IndexOutOfBoundsException if there is no such register (0 to 7)");
        Checks.toSeven(Checks.INDEX, TEXT, (d, r) -> d.associate(r, 0, 0));
        Checks.toSeven(Checks.INDEX, TEXT, (d, r) -> d.associate(0, r, 0));
        Checks.toSeven(Checks.INDEX, TEXT, (d, r) -> d.associate(0, 0, r));
        Checks.sentence("Promise 21: returns whether (a b) c is a (b c)");
        OctavianDesk d = new OctavianDesk();
        for (int code = 0; code < 512; code++) {
            int a = code >> 6;
            int b = code >> 3 & 7;
            int c = code & 7;
            boolean same = a == b || b == c || a == c;
            d = code % 256 == 0 ? new OctavianDesk() : d;
            boolean due = same || dimensionOf(1 << a | 1 << b | 1 << c) < 8;
            Checks.is("associate(" + a + ", " + b + ", " + c + ")", d.associate(a, b, c), due);
        }
        Checks.sentence("Promise 21: changes nothing and is not undoable");
        Checks.quiet(TEXT, x -> x.associate(1, 2, 3));
        Checks.quiet(TEXT, x -> x.associate(1, 2, 4));
    }

    private static void associateLarge() {
        Checks.sentence("Promise 21: the products need not fit into a register, and no sum of squares may wrap round");
        int[] sizes = {1, 2, 512, 1024, 1536, 1999, 2000};
        for (int x : sizes) {
            for (int y : sizes) {
                OctavianDesk d = new OctavianDesk();
                Checks.put(d, 1, 0, x, x, 0, 0, 0, 0, 0);
                Checks.put(d, 2, 0, y, -y, 0, 0, 0, 0, 0);
                Checks.put(d, 3, 0, 0, 0, x, 0, 0, 0, 0);
                Checks.is("associate", d.associate(1, 2, 3), false);
                Checks.is("associate", d.associate(3, 1, 2), false);
                Checks.is("dimension", d.dimension(14), 8);
                Checks.put(d, 3, y, 0, 0, 0, -x, 0, 0, 0);
                Checks.is("associate", d.associate(1, 2, 3), true);
                Checks.is("dimension", d.dimension(14), 4);
            }
        }
        Checks.sentence("Promise 21: what differs in one coordinate from an element of the subalgebra of two does not associate");
        for (int i = 0; i < 8; i++) {
            OctavianDesk d = new OctavianDesk();
            long[] a = {1, 2, 0, -4, 6, 0, 8, 2};
            long[] b = {0, 4, 2, 0, -2, 6, 2, -8};
            Checks.put(d, 1, a);
            Checks.put(d, 2, b);
            Checks.put(d, 3, Checks.halved(Checks.product(a, b)));
            Checks.is("associate", d.associate(1, 2, 3), true);
            d.set(3, i, d.coordinate(3, i) - 1);
            Checks.is("associate", d.associate(1, 2, 3), i == 0);
            Checks.is("associate", d.associate(3, 2, 1), i == 0);
        }
    }

    // ---- elements

    private static void elementsRange() {
        for (int n = 0; n < 8; n++) {
            int order = n;
            Checks.Script inOrder = d -> d.setOrder(order);
            Checks.sentence("Promise 22: norm: 0 to 1000, IllegalArgumentException if out of range");
            Checks.allowed(inOrder, d -> d.elements(0));
            Checks.allowed(inOrder, d -> d.elements(1000));
            for (int norm : new int[] {-1, 1001, -1000, 65536, Integer.MIN_VALUE, Integer.MAX_VALUE}) {
                Checks.refused(Checks.ARGUMENT, inOrder, d -> d.elements(norm));
            }
        }
        Checks.sentence("Promise 22: changes nothing and is not undoable");
        Checks.quiet(TEXT, d -> d.elements(1000));
        Checks.quiet(TEXT, d -> d.elements(0));
    }

    /** The ways to be a sum of eight squares, by adding a square at a time. */
    private static long[] sumsOfEightSquares() {
        long[] ways = new long[1001];
        ways[0] = 1;
        for (int n = 0; n < 8; n++) {
            long[] next = new long[1001];
            for (int sum = 0; sum <= 1000; sum++) {
                next[sum] += ways[sum];
                for (int x = 1; x * x <= sum; x++) {
                    next[sum] += 2 * ways[sum - x * x];
                }
            }
            ways = next;
        }
        return ways;
    }

    private static void elementsOfEdges() {
        Checks.sentence("Promise 22: returns their number, in the order 0");
        long[] due = sumsOfEightSquares();
        OctavianDesk d = new OctavianDesk();
        for (int norm = 0; norm <= 1000; norm++) {
            if (norm % 400 == 0) {
                d = new OctavianDesk();
                d.setOrder(0);
            }
            Checks.is("elements(" + norm + ")", d.elements(norm), due[norm]);
        }
        Checks.sentence("Promise 22: returns their number, in the orders 1 to 7: 1 of the norm 0, as many units as value(1) tells, and so on");
        // 240 times the sum of the cubes of the divisors: 997 is a prime number, 999 is 27 times 37.
        long[][] some = {{0, 1}, {1, 240}, {2, 2160}, {3, 6720}, {4, 17520}, {5, 30240}, {997, 240L * (1 + 997L * 997 * 997)},
            {999, 240L * (1 + 27 + 729 + 19683) * (1 + 50653)}, {1000, 276430190400L}};
        for (int order = 1; order < 8; order++) {
            OctavianDesk e = new OctavianDesk();
            e.setOrder(order);
            for (long[] x : some) {
                Checks.is("elements(" + x[0] + ")", e.elements((int) x[0]), x[1]);
            }
        }
        Checks.sentence("Promise 22: whole norms, not quarters");
        OctavianDesk e = new OctavianDesk();
        Checks.is("elements(1)", e.elements(1), e.value(1));
    }

    // ---- commuting

    private static void commuting() {
        Checks.sentence("Promise 25: register: IndexOutOfBoundsException if there is no such register (0 to 7)");
        Checks.toSeven(Checks.INDEX, TEXT, (d, r) -> d.commuting(r));
        Checks.toSeven(Checks.INDEX, d -> d.setOrder(0), (d, r) -> d.commuting(r));
        Checks.sentence("Promise 25: changes nothing and is not undoable");
        Checks.quiet(TEXT, d -> d.commuting(0));
        Checks.quiet(TEXT, d -> d.commuting(7));
        Checks.sentence("Promise 25: how many units u of the present order satisfy u a = a u");
        long[][] some = {{0, 2, 0, 0, 0, 0, 0, 0}, {7, 1, 1, 0, 1, 0, 0, 0}, {0, 0, 2000, 2000, 0, -2000, 0, 0}, {0, 0, 0, 1, 0, 0, 0, 0},
            {1, 1, 0, 0, 0, 0, 0, 0}, {0, 1, 1, 0, 0, 0, 0, 0}, {9, 3, -3, 0, 3, 0, 0, 0}, {5, 1, 1, 1, 1, 1, 1, 1}, {0, 0, 0, 1, 0, 1, 1, 1}};
        for (int order = 0; order < 8; order++) {
            for (long[] a : some) {
                isCommuting(order, a);
            }
        }
    }

    private static void isCommuting(int order, long[] a) {
        int due = 0;
        OctavianDesk d = new OctavianDesk();
        d.setOrder(order);
        int units = d.value(1);
        for (int u = 0; u < units; u++) {
            if (u % 60 == 0) {
                d = new OctavianDesk();
                d.setOrder(order);
                Checks.put(d, 3, a);
            }
            d.load(u, 4);
            due += d.commute(4, 3) ? 1 : 0;
        }
        Checks.is("commuting in the order " + order, d.commuting(3), due);
    }

    private static void commutingOfEdges() {
        for (int order = 0; order < 8; order++) {
            OctavianDesk d = new OctavianDesk();
            d.setOrder(order);
            int all = order == 0 ? 16 : 240;
            Checks.sentence("Promise 25: all units commute with 0 and with each multiple of e0");
            Checks.is("e0", d.commuting(0), all);
            Checks.put(d, 1, new long[8]);
            Checks.is("0", d.commuting(1), all);
            d.set(1, 0, -2000);
            Checks.is("-1000", d.commuting(1), all);
            Checks.sentence("Promise 25: e0 and minus e0 commute with all, and none else may");
            Checks.put(d, 1, 0, 1, 2, 3, 4, 5, 6, 7);
            Checks.is("two units", d.commuting(1), 2);
            Checks.sentence("Promise 25: a register need not be in the present order");
            Checks.put(d, 1, 1, 1, 0, 0, 0, 0, 0, 0);
            Checks.is("e1 with a half", d.commuting(1), 4);
        }
        Checks.sentence("Promise 25: units with halves, in the orders that have them");
        OctavianDesk d = new OctavianDesk();
        Checks.put(d, 2, 2000, 1, 1, 0, 1, 0, 0, 0);
        // With e0 and minus e0 half of (plus or minus 1) and all of plus or all of minus e1 + e2 + e4.
        int[] due = {2, 6, 6, 2, 6, 2, 2, 2};
        for (int order = 0; order < 8; order++) {
            d.setOrder(order);
            Checks.is("e1 + e2 + e4", d.commuting(2), due[order]);
        }
    }
}
