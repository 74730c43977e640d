/** The boundaries of the promises 12 to 18, and of what the terms say of norms and orders. */
public final class ValueBoundsTest {
    private static final Checks.Script NEW = d -> { };
    private static final Checks.Script TEXT = d -> Checks.write(d, "h=a*b-2c;a=c;");
    private static final long[] ALL = Checks.odd(255, 2000);

    public static void main(String[] args) {
        coordinate();
        norm();
        dot();
        ordersOf();
        closedOrders();
        left();
        unitOf();
        unitOfNone();
        valueRange();
        valueOfOrders();
        valueOfMultiplications();
        valueOfRegisters();
        Checks.end("ValueBoundsTest");
    }

    private static void coordinate() {
        Checks.sentence("Promise 12: register: 0 to 7, IndexOutOfBoundsException if there is no such register");
        Checks.toSeven(Checks.INDEX, TEXT, (d, r) -> d.coordinate(r, 0));
        Checks.sentence("Promise 12: index: 0 to 7, IndexOutOfBoundsException if there is no such coordinate");
        Checks.toSeven(Checks.INDEX, TEXT, (d, i) -> d.coordinate(0, i));
        Checks.sentence("Promise 12: returns its halves: of the register and index that were asked for");
        OctavianDesk d = new OctavianDesk();
        for (int r = 0; r < 8; r++) {
            Checks.put(d, r, 10 * r, 10 * r + 1, 10 * r + 2, 10 * r + 3, -10 * r - 4, 10 * r + 5, 2000 - r, r - 2000);
        }
        for (int r = 0; r < 8; r++) {
            Checks.row(d, r, 10 * r, 10 * r + 1, 10 * r + 2, 10 * r + 3, -10 * r - 4, 10 * r + 5, 2000 - r, r - 2000);
        }
        Checks.sentence("Promise 12: changes nothing and is not undoable");
        Checks.quiet(TEXT, x -> x.coordinate(7, 7));
    }

    private static void norm() {
        Checks.sentence("Promise 13: register: IndexOutOfBoundsException if there is no such register (0 to 7)");
        Checks.toSeven(Checks.INDEX, TEXT, (d, r) -> d.norm(r));
        Checks.sentence("Promise 13: returns the norm, in quarters: the sum of the squares of all coordinates");
        for (int r = 0; r < 8; r++) {
            OctavianDesk d = new OctavianDesk();
            Checks.is("norm of er", d.norm(r), 4);
            for (int i = 0; i < 8; i++) {
                Checks.put(d, r, Checks.only(i, -3));
                Checks.is("norm of one coordinate", d.norm(r), 9);
            }
            Checks.put(d, r, new long[8]);
            Checks.is("the least norm", d.norm(r), 0);
            Checks.put(d, r, Checks.negative(ALL));
            Checks.is("the largest norm", d.norm(r), 32000000);
            Checks.put(d, r, 1, 2, 4, 8, 16, 32, 64, 128);
            Checks.is("norm", d.norm(r), 21845);
        }
        Checks.sentence("Promise 13: changes nothing and is not undoable");
        Checks.quiet(TEXT, x -> x.norm(7));
    }

    private static void dot() {
        Checks.sentence("Promise 14: a, b: IndexOutOfBoundsException if there is no such register (0 to 7)");
        Checks.toSeven(Checks.INDEX, TEXT, (d, r) -> d.dot(r, 0));
        Checks.toSeven(Checks.INDEX, TEXT, (d, r) -> d.dot(0, r));
        Checks.sentence("Promise 14: returns the sum of the products of their coordinates, in quarters");
        OctavianDesk d = new OctavianDesk();
        for (int a = 0; a < 8; a++) {
            for (int b = 0; b < 8; b++) {
                Checks.is("dot of basis elements", d.dot(a, b), a == b ? 4 : 0);
            }
        }
        Checks.put(d, 0, ALL);
        Checks.put(d, 1, Checks.negative(ALL));
        Checks.put(d, 2, 1, 1, 1, 1, -1, -1, -1, -1);
        Checks.put(d, 3, 1, -10, 100, -1000, 1, 2, 3, 4);
        Checks.is("the largest", d.dot(0, 0), 32000000);
        Checks.is("the least", d.dot(0, 1), -32000000);
        Checks.is("0", d.dot(0, 2), 0);
        Checks.is("dot", d.dot(2, 3), -919);
        Checks.is("dot", d.dot(3, 2), -919);
        Checks.is("an odd number of quarters", d.dot(4, 2), -2);
        d.set(4, 4, 1);
        Checks.is("one quarter", d.dot(2, 4), -1);
        Checks.sentence("Promise 14: changes nothing and is not undoable");
        Checks.quiet(TEXT, x -> x.dot(0, 7));
    }

    private static void ordersOf() {
        Checks.sentence("Promise 15: register: IndexOutOfBoundsException if there is no such register (0 to 7)");
        Checks.toSeven(Checks.INDEX, TEXT, (d, r) -> d.ordersOf(r));
        for (int odd = 0; odd < 256; odd++) {
            int due = 0;
            for (int order = 0; order < 8; order++) {
                due |= Checks.isInOrder(odd, order) ? 1 << order : 0;
            }
            OctavianDesk d = new OctavianDesk();
            Checks.sentence("Terms, Orders: which sets of indices that are not whole an order has; bit n for the order n");
            Checks.put(d, 3, Checks.odd(odd, 1));
            Checks.is("ordersOf the set " + odd, d.ordersOf(3), due);
            Checks.put(d, 3, Checks.odd(odd, -1999));
            Checks.is("ordersOf the set " + odd, d.ordersOf(3), due);
            Checks.sentence("Terms, Orders: the whole coordinates may be any");
            Checks.put(d, 3, Checks.plus(Checks.odd(odd, 3), Checks.odd(255 - odd, -2000)));
            Checks.is("ordersOf the set " + odd, d.ordersOf(3), due);
        }
        OctavianDesk d = new OctavianDesk();
        Checks.sentence("Terms, Orders: the order 0 has the octonions whose coordinates are all whole; none whole: the others");
        isInOrders(d, 255, 2, 0b00000000);
        isInOrders(d, 254, 1, 0b11111111);
        Checks.sentence("Terms, Orders: 0 and the three numbers of a triple, or the other four; 0 and n exchanged change it");
        isInOrders(d, 0b00010110, 1, 0b00010111);
        isInOrders(d, 0b00010110, 1, 0b11101000);
        isInOrders(d, 0b10001010, 1, 0b10001011);
        isInOrders(d, 0b10001010, 1, 0b01110100);
        // With 0 and 1 exchanged 1, 2, 3 and 5 are 0, 2, 3 and 5, and no other exchange makes them such a set.
        isInOrders(d, 0b00000010, 1, 0b00101110);
        isInOrders(d, 0b00000010, 1, 0b11010001);
        Checks.sentence("Terms, Orders: one index less or more than four, or than all, is in no order");
        isInOrders(d, 0, 1, 0b00000110);
        isInOrders(d, 0, 1, 0b00010101);
        isInOrders(d, 0, 1, 0b00011111);
        isInOrders(d, 0, 1, 0b01111111);
        isInOrders(d, 0, 1, 0b11111110);
        isInOrders(d, 0, 1, 0b00000001);
        Checks.sentence("Promise 15: changes nothing and is not undoable");
        Checks.quiet(TEXT, x -> x.ordersOf(7));
    }

    private static void isInOrders(OctavianDesk d, int due, int halves, int set) {
        Checks.put(d, 2, Checks.odd(set == 0 ? 255 : set, halves));
        Checks.is("ordersOf", d.ordersOf(2), due);
    }

    private static void closedOrders() {
        Checks.sentence("Terms, Orders: sums and products of elements of an order are in it");
        for (int order = 0; order < 8; order++) {
            for (int n = 0; n < 60; n++) {
                OctavianDesk d = new OctavianDesk();
                d.setOrder(order);
                int units = d.value(1);
                d.load((37 * n + 5) % units, 1);
                d.load((91 * n + 3 * order) % units, 2);
                Checks.is("norm of a product of units", d.multiply(1, 2, 3), 4);
                Checks.is("whether a product is in the order", d.ordersOf(3) >> order & 1, 1);
                d.add(1, 2, 3, false);
                Checks.is("whether a sum is in the order", d.ordersOf(3) >> order & 1, 1);
                d.conjugate(1);
                Checks.is("whether a conjugate is in the order", d.ordersOf(1) >> order & 1, 1);
            }
        }
    }

    private static void left() {
        Checks.sentence("Promise 16: register: 0 to 7, IndexOutOfBoundsException if there is no such register");
        Checks.toSeven(Checks.INDEX, TEXT, (d, r) -> d.left(r, 0, 0));
        Checks.sentence("Promise 16: row: 0 to 7, IndexOutOfBoundsException if there is no such row");
        Checks.toSeven(Checks.INDEX, TEXT, (d, row) -> d.left(0, row, 0));
        Checks.sentence("Promise 16: column: 0 to 7, IndexOutOfBoundsException if there is no such column");
        Checks.toSeven(Checks.INDEX, TEXT, (d, column) -> d.left(0, 0, column));
        Checks.sentence("Promise 16: returns the halves of the coordinate row of the register times the basis element of the number column");
        for (int r = 0; r < 8; r++) {
            OctavianDesk d = new OctavianDesk();
            long[] a = {2000, -1999, 3, -1, 0, 7, -2000, 1};
            Checks.put(d, r, a);
            for (int column = 0; column < 8; column++) {
                long[] due = Checks.halved(Checks.product(a, Checks.only(column, 2)));
                for (int row = 0; row < 8; row++) {
                    Checks.is("left(" + r + ", " + row + ", " + column + ")", d.left(r, row, column), due[row]);
                }
            }
        }
        Checks.sentence("Promise 16: changes nothing and is not undoable");
        Checks.quiet(TEXT, x -> x.left(7, 7, 7));
    }

    private static void unitOf() {
        Checks.sentence("Promise 17: register: IndexOutOfBoundsException if there is no such register (0 to 7)");
        Checks.toSeven(Checks.INDEX, TEXT, (d, r) -> d.unitOf(r));
        Checks.toSeven(Checks.INDEX, x -> x.setOrder(0), (d, r) -> d.unitOf(r));
        Checks.sentence("Promise 17: returns its number among the units of the present order, from the first to the last one");
        for (int order = 0; order < 8; order++) {
            OctavianDesk d = new OctavianDesk();
            d.setOrder(order);
            int units = d.value(1);
            for (int u = 0; u < units; u++) {
                d.load(u, u % 8);
                Checks.is("unitOf", d.unitOf(u % 8), u);
            }
        }
        Checks.sentence("Promise 17: the basis elements are units of each order, and the numbers are those of the present one");
        OctavianDesk d = new OctavianDesk();
        Checks.is("e0 in the order 1", d.unitOf(0), 239);
        d.setOrder(0);
        for (int r = 1; r < 8; r++) {
            // Minus e0 to minus e7 are the units 0 to 7, then come e7 to e0.
            Checks.is("er in the order 0", d.unitOf(r), 15 - r);
            d.conjugate(r);
            Checks.is("minus er in the order 0", d.unitOf(r), r);
        }
        Checks.is("e0 in the order 0", d.unitOf(0), 15);
        d.set(0, 0, -2);
        Checks.is("minus e0 in the order 0", d.unitOf(0), 0);
        Checks.sentence("Promise 17: changes nothing and is not undoable");
        Checks.quiet(TEXT, x -> x.unitOf(7));
    }

    private static void unitOfNone() {
        for (int order = 0; order < 8; order++) {
            OctavianDesk d = new OctavianDesk();
            d.setOrder(order);
            Checks.sentence("Promise 17: NONE if it is no unit of it: another norm");
            isNoUnit(d, new long[8]);
            isNoUnit(d, Checks.only(0, 4));
            isNoUnit(d, Checks.only(7, -4));
            isNoUnit(d, Checks.only(3, 2000));
            isNoUnit(d, Checks.odd(255, 1));
            isNoUnit(d, Checks.odd(0b11, 2));
            isNoUnit(d, ALL);
            Checks.sentence("Promise 17: NONE if it is no unit of it: the norm 1, and not in the order");
            for (int set = 1; set < 255; set++) {
                if (Integer.bitCount(set) == 4) {
                    OctavianDesk e = new OctavianDesk();
                    e.setOrder(order);
                    Checks.put(e, 4, Checks.odd(set, 1));
                    Checks.is("whether " + set + " is a unit", e.unitOf(4) != OctavianDesk.NONE, Checks.isInOrder(set, order));
                    Checks.is("unitOf", e.unitOf(4) < 0 ? e.unitOf(4) : -1, -1);
                }
            }
            Checks.sentence("Promise 17: NONE if it is no unit of it: the norm 1 in one coordinate and three others that are no halves");
            isNoUnit(d, 1, 1, 1, 0, 0, 0, 0, 0);
            isNoUnit(d, 2, 0, 0, 0, 0, 0, 0, 1);
        }
    }

    private static void isNoUnit(OctavianDesk d, long... row) {
        Checks.put(d, 5, row);
        Checks.is("unitOf", d.unitOf(5), OctavianDesk.NONE);
    }

    // ---- value

    private static void valueRange() {
        Checks.sentence("Promise 18: what: 0 to 5, IllegalArgumentException if out of range");
        for (int w = 0; w <= 5; w++) {
            int what = w;
            Checks.allowed(TEXT, d -> d.value(what));
            Checks.sentence("Promise 18: changes nothing and is not undoable");
            Checks.quiet(TEXT, d -> d.value(what));
        }
        Checks.sentence("Promise 18: what: 0 to 5, IllegalArgumentException if out of range");
        for (int what : new int[] {-1, 6, 7, 8, 256, -256, Integer.MIN_VALUE, Integer.MAX_VALUE}) {
            Checks.refused(Checks.ARGUMENT, TEXT, d -> d.value(what));
        }
    }

    private static void valueOfOrders() {
        OctavianDesk d = new OctavianDesk();
        for (int order = 7; order >= 0; order--) {
            d.setOrder(order);
            Checks.sentence("Promise 18: 0 the present order");
            Checks.is("value(0)", d.value(0), order);
            Checks.sentence("Promise 18: 1 the number of its units");
            Checks.is("value(1)", d.value(1), order == 0 ? 16 : 240);
        }
    }

    private static void valueOfMultiplications() {
        Checks.sentence("Promise 18: 2 the multiplications of registers so far, by multiply()");
        OctavianDesk d = new OctavianDesk();
        Checks.is("value(2)", d.value(2), 0);
        d.multiply(1, 2, 3);
        d.multiply(0, 0, 0);
        Checks.is("value(2)", d.value(2), 2);
        Checks.sentence("Promise 18: 2, and not by a multiply() that is refused");
        d.set(4, 0, 2000);
        Checks.is("too large", Checks.thrownBy(d, x -> x.multiply(4, 4, 5)) == Checks.ARITHMETIC, true);
        Checks.is("no register", Checks.thrownBy(d, x -> x.multiply(4, 4, 8)) == Checks.INDEX, true);
        Checks.is("value(2)", d.value(2), 2);
        Checks.sentence("Promise 18: 2, and by \"*\" in carried out assignments, each of them, in brackets too");
        Checks.is("carryOut", Checks.carry(d, "b=c;d=b*c;e=(b*c*(c*d'))-2b*3c;"), 3);
        Checks.is("value(2)", d.value(2), 7);
        Checks.is("carryOut again", d.carryOut(), 3);
        Checks.is("value(2)", d.value(2), 12);
        Checks.sentence("Promise 18: 2, and not by \"*\" in an assignment that cannot be carried out, nor behind it");
        d.set(0, 0, 2000);
        Checks.is("carryOut", Checks.carry(d, "d=b*c;e=b*c*c+2a;f=b*c;"), 1);
        Checks.is("value(2)", d.value(2), 13);
        Checks.is("carryOut", Checks.carry(d, "e=a*a;f=b*c;"), 0);
        Checks.is("value(2)", d.value(2), 13);
        Checks.sentence("Promise 18: 2, and not by \"*\" in a text with a syntax error");
        Checks.is("carryOut", Checks.carry(d, "d=b*c;e=b*"), -20);
        Checks.is("value(2)", d.value(2), 13);
        Checks.sentence("Promise 18: 2, and not by other calls");
        d.commutator(1, 2, 3);
        d.associator(1, 2, 3, 4);
        d.commute(1, 2);
        d.associate(1, 2, 3);
        d.left(1, 2, 3);
        d.dimension(255);
        d.commuting(1);
        Checks.is("value(2)", d.value(2), 13);
        Checks.sentence("Promise 18: 2, and undo() brings an earlier number back");
        d.undo();
        d.undo();
        d.undo();
        Checks.is("value(2)", d.value(2), 13);
        d.undo();
        Checks.is("value(2)", d.value(2), 12);
    }

    private static void valueOfRegisters() {
        OctavianDesk d = new OctavianDesk();
        for (int r = 0; r < 8; r++) {
            Checks.sentence("Promise 18: 4 the registers that are in the present order, from all to none");
            Checks.is("value(4)", d.value(4), 8 - r);
            d.set(r, (r + 1) % 8, r % 2 == 0 ? 1 : -1);
        }
        Checks.is("value(4)", d.value(4), 0);
        for (int r = 0; r < 8; r++) {
            Checks.sentence("Promise 18: 5 the registers that are 0, from none to all");
            Checks.is("value(5)", d.value(5), r);
            Checks.put(d, r, new long[8]);
        }
        Checks.is("value(5)", d.value(5), 8);
        Checks.sentence("Promise 18: 5, 0 in each coordinate");
        for (int i = 0; i < 8; i++) {
            d.set(i, i, i % 2 == 0 ? 1 : -2000);
            Checks.is("value(5)", d.value(5), 7 - i);
        }
        Checks.sentence("Promise 18: 4, in the present order, not in one before");
        Checks.put(d, 0, 1, 1, 1, 0, 1, 0, 0, 0);
        for (int r = 1; r < 8; r++) {
            Checks.put(d, r, Checks.only(0, r));
        }
        int[] due = {3, 4, 4, 3, 4, 3, 3, 3};
        for (int order = 0; order < 8; order++) {
            d.setOrder(order);
            Checks.is("value(4)", d.value(4), due[order]);
        }
    }
}
