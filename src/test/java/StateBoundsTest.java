import java.util.ArrayDeque;
import java.util.ArrayList;
import java.util.List;
import java.util.function.ToLongFunction;

/** The boundaries of the promises 29 and 30, and of what the terms say of undoing and of exceptions. */
public final class StateBoundsTest {
    private static final Checks.Script NEW = d -> { };
    private static final Checks.Script TEXT = d -> Checks.write(d, "h=a*b-2c;a=c;");
    private static final Checks.Script FULL = d -> Checks.write(d, "a=b;".repeat(25));

    public static void main(String[] args) {
        lastCalls();
        undoOfNone();
        undoCounts();
        undoDropsTheOldest();
        undoThenSave();
        undoOfAllMethods();
        undoOfMixedCalls();
        notUndoable();
        refusedSavesNone();
        withoutText();
        digestOfNew();
        digestOfMany();
        digestOfText();
        digestOfSaved();
        Checks.end("StateBoundsTest");
    }

    // ---- the last calls of an object

    /** Each method of the face, but undo() and digest(), which are asked behind it. */
    private static final List<ToLongFunction<OctavianDesk>> METHODS = List.of(d -> d.set(1, 2, 4), d -> d.setFour(3, true, 2, 0, -2, 4),
        d -> d.setOrder(2), d -> d.load(7, 4), d -> d.add(1, 2, 5, false), d -> d.multiply(1, 5, 7), d -> d.conjugate(1),
        d -> d.commutator(2, 1, 0), d -> d.associator(1, 2, 3, 5), d -> d.divide(2, 6, 3, 4), d -> d.coordinate(3, 3), d -> d.norm(1),
        d -> d.dot(2, 2), d -> d.ordersOf(1), d -> d.left(1, 2, 4), d -> d.unitOf(1), d -> d.value(1), d -> d.dimension(255),
        d -> d.commute(1, 0) ? 1 : 0, d -> d.associate(1, 2, 4) ? 1 : 0, d -> d.elements(7), d -> d.steps(1, 2), d -> d.lastNorm(1, 2),
        d -> d.commuting(1), d -> d.append('b'), d -> d.clearText(), d -> d.carryOut());

    private static void lastCalls() {
        Checks.sentence("What it is: an object is used for at most 512 calls: the calls 510 to 512 are answered as earlier ones");
        for (int n = 0; n < METHODS.size(); n++) {
            long[] due = answers(METHODS.get(n), 30);
            Checks.same("the last answers of method " + n, answers(METHODS.get(n), 512), due);
        }
    }

    private static long[] answers(ToLongFunction<OctavianDesk> method, int calls) {
        OctavianDesk d = new OctavianDesk();
        String text = "h=a*b-2c;a=c;";
        for (int n = 0; n < calls - 3; n++) {
            if (n < text.length()) {
                d.append(text.charAt(n));
            } else {
                d.set(0, 0, 2);
            }
        }
        return new long[] {method.applyAsLong(d), d.digest(), d.undo()};
    }

    // ---- promise 29

    private static void undoOfNone() {
        Checks.sentence("Promise 29: IllegalStateException if there is no saved state: on a new desk");
        Checks.refusedAfter(0, Checks.STATE, NEW, d -> d.undo());
        Checks.refusedAfter(0, Checks.STATE, TEXT, d -> d.undo());
        Checks.sentence("Promise 29: IllegalStateException if there is no saved state: after the last one is restored");
        for (int calls = 1; calls <= 6; calls++) {
            int n = calls;
            Checks.refusedAfter(0, Checks.STATE, d -> {
                for (int i = 0; i < n; i++) {
                    d.set(i, 7, 100 + i);
                }
                for (int i = 0; i < n && i < 4; i++) {
                    d.undo();
                }
            }, d -> d.undo());
        }
    }

    private static void undoCounts() {
        for (int calls = 1; calls <= 9; calls++) {
            Checks.sentence("Promise 29: returns the number of saved states that remain, from 3 to 0");
            OctavianDesk d = new OctavianDesk();
            for (int n = 1; n <= calls; n++) {
                d.set(2, 3, n);
            }
            int most = Math.min(calls, 4);
            for (int n = 1; n <= most; n++) {
                Checks.is("undo", d.undo(), most - n);
                Checks.sentence("Promise 29: restores the most recently saved state and removes it");
                Checks.is("coordinate", d.coordinate(2, 3), calls - n);
            }
            Checks.is("whether undo() is refused", Checks.thrownBy(d, x -> x.undo()) == Checks.STATE, true);
        }
    }

    private static void undoDropsTheOldest() {
        Checks.sentence("Terms, Undo: at most 4 states are saved, and the oldest is dropped first");
        for (int calls : new int[] {4, 5, 6, 7, 8, 50, 400}) {
            OctavianDesk d = new OctavianDesk();
            for (int n = 1; n <= calls; n++) {
                Checks.is("set", d.set(3, 4, 100 + n), n == 1 ? 0 : 99 + n);
            }
            for (int n = 1; n <= 4; n++) {
                Checks.is("undo", d.undo(), 4 - n);
                Checks.is("coordinate", d.coordinate(3, 4), n == calls ? 0 : 100 + calls - n);
            }
            Checks.is("whether undo() is refused", Checks.thrownBy(d, x -> x.undo()) == Checks.STATE, true);
            Checks.is("coordinate", d.coordinate(3, 4), calls == 4 ? 0 : 96 + calls);
        }
    }

    private static void undoThenSave() {
        Checks.sentence("Terms, Undo: what is restored is saved again by the next call, and is no part of later changes");
        OctavianDesk d = new OctavianDesk();
        for (int n = 1; n <= 4; n++) {
            d.set(0, 1, n);
        }
        Checks.is("undo", d.undo(), 3);
        Checks.is("undo", d.undo(), 2);
        d.set(0, 1, 10);
        d.set(0, 1, 11);
        d.set(0, 1, 12);
        int[] due = {11, 10, 2, 1};
        for (int n = 0; n < 4; n++) {
            Checks.is("undo", d.undo(), 3 - n);
            Checks.is("coordinate", d.coordinate(0, 1), due[n]);
        }
        for (int n = 0; n < 20; n++) {
            d.set(0, 1, 100 + n);
            Checks.is("undo", d.undo(), 0);
            Checks.is("coordinate", d.coordinate(0, 1), 1);
        }
        Checks.sentence("Promise 29: undo() is not undoable: a second one goes back further");
        d.set(0, 1, 5);
        d.set(0, 1, 6);
        d.undo();
        d.undo();
        Checks.is("coordinate", d.coordinate(0, 1), 1);
        Checks.is("whether undo() is refused", Checks.thrownBy(d, x -> x.undo()) == Checks.STATE, true);
    }

    private static final Checks.Script[] UNDOABLE = {d -> d.set(1, 2, 4), d -> d.setFour(3, true, 2, 0, -2, 4), d -> d.setOrder(2),
        d -> d.load(7, 4), d -> d.add(1, 2, 5, false), d -> d.add(3, 2, 6, true), d -> d.multiply(1, 5, 7), d -> d.conjugate(1),
        d -> d.commutator(2, 1, 0), d -> d.associator(1, 2, 3, 5), d -> d.divide(2, 6, 3, 4), d -> d.carryOut()};

    private static void undoOfAllMethods() {
        for (Checks.Script call : UNDOABLE) {
            Checks.sentence("Terms, Undo: each successful call of an undoable method saves the state from before the call");
            Checks.undoable(NEW, call);
            Checks.undoable(TEXT, call);
            Checks.sentence("Terms, Undo: one of an undoable method after each other one");
            for (Checks.Script before : UNDOABLE) {
                OctavianDesk d = Checks.desk(TEXT);
                long[] first = Checks.look(d);
                before.on(d);
                long[] second = Checks.look(d);
                call.on(d);
                Checks.is("undo", d.undo(), 1);
                Checks.same("the state between them", Checks.look(d), second);
                Checks.is("undo", d.undo(), 0);
                Checks.same("the state before both", Checks.look(d), first);
            }
        }
    }

    /** Calls and undo() in an order that comes to each number of saved states, against a list of what was seen. */
    private static void undoOfMixedCalls() {
        Checks.sentence("Promise 29: undo() between other calls, with states saved and dropped");
        for (int seed = 1; seed <= 60; seed++) {
            OctavianDesk d = Checks.desk(TEXT);
            ArrayDeque<Long> states = new ArrayDeque<>();
            int code = seed * 7919;
            for (int n = 0; n < 60; n++) {
                code = code * 1103515245 + 12345;
                int pick = (code >>> 16) % 20;
                if (pick >= UNDOABLE.length && !states.isEmpty()) {
                    Checks.is("undo", d.undo(), states.size() - 1);
                    long due = states.removeLast();
                    Checks.is("the state", d.digest() - states.size(), due);
                } else if (pick < UNDOABLE.length) {
                    long before = d.digest() - states.size();
                    if (Checks.thrownBy(d, UNDOABLE[pick]) == null) {
                        states.addLast(before);
                        if (states.size() > 4) {
                            states.removeFirst();
                        }
                    } else {
                        Checks.is("the state after a refused call", d.digest() - states.size(), before);
                    }
                }
            }
            Checks.is("saved states", Checks.savedStates(d), states.size());
        }
    }

    private static void notUndoable() {
        Checks.sentence("Terms, Undo: a method whose description does not say \"undoable\" saves no state");
        Checks.Script[] quiet = {d -> d.coordinate(1, 1), d -> d.norm(1), d -> d.dot(1, 2), d -> d.ordersOf(1), d -> d.left(1, 2, 3),
            d -> d.unitOf(1), d -> d.value(4), d -> d.dimension(255), d -> d.commute(1, 2), d -> d.associate(1, 2, 3), d -> d.elements(7),
            d -> d.steps(1, 2), d -> d.lastNorm(1, 2), d -> d.commuting(1), d -> d.digest()};
        for (Checks.Script call : quiet) {
            Checks.quiet(TEXT, call);
            Checks.quiet(NEW, call);
        }
        Checks.sentence("Terms, Undo: append() and clearText() save no state");
        for (int calls = 0; calls <= 6; calls++) {
            OctavianDesk d = new OctavianDesk();
            for (int n = 0; n < calls; n++) {
                d.set(0, 1, n + 1);
                d.append('a');
                d.clearText();
                d.append('b');
            }
            for (int n = Math.min(calls, 4); n > 0; n--) {
                Checks.is("undo", d.undo(), n - 1);
                Checks.is("coordinate", d.coordinate(0, 1), calls - 1 - (Math.min(calls, 4) - n));
            }
            Checks.is("whether undo() is refused", Checks.thrownBy(d, x -> x.undo()) == Checks.STATE, true);
        }
    }

    private static void refusedSavesNone() {
        Checks.sentence("Terms, Exceptions: a call that throws an exception changes nothing: a refused call of each method");
        Checks.Script[] noIndex = {d -> d.set(8, 0, 0), d -> d.setFour(8, false, 0, 0, 0, 0), d -> d.load(240, 0), d -> d.add(8, 0, 0, false),
            d -> d.multiply(8, 0, 0), d -> d.conjugate(8), d -> d.commutator(8, 0, 0), d -> d.associator(8, 0, 0, 0),
            d -> d.divide(8, 0, 1, 2), d -> d.coordinate(8, 0), d -> d.norm(8), d -> d.dot(8, 0), d -> d.ordersOf(8), d -> d.left(8, 0, 0),
            d -> d.unitOf(8), d -> d.commute(8, 0), d -> d.associate(8, 0, 0), d -> d.steps(8, 0), d -> d.lastNorm(8, 0), d -> d.commuting(8)};
        for (Checks.Script call : noIndex) {
            Checks.refused(Checks.INDEX, TEXT, call);
            Checks.refused(Checks.INDEX, FULL, call);
        }
        Checks.Script[] noArgument = {d -> d.set(0, 0, 2001), d -> d.setFour(0, false, 0, 0, 0, 2001), d -> d.setOrder(8), d -> d.divide(0, 1, 2, 2),
            d -> d.value(6), d -> d.dimension(256), d -> d.elements(1001), d -> d.append(128)};
        for (Checks.Script call : noArgument) {
            Checks.refused(Checks.ARGUMENT, TEXT, call);
            Checks.refused(Checks.ARGUMENT, FULL, call);
        }
        Checks.Script wide = d -> {
            TEXT.on(d);
            Checks.put(d, 0, Checks.odd(255, 2000));
            Checks.put(d, 2, 0, 0, 2000, 1, 0, 0, 0, 0);
            d.multiply(6, 7, 6);
            d.setOrder(4);
        };
        Checks.Script[] tooLarge = {d -> d.add(0, 0, 1, false), d -> d.multiply(0, 0, 1), d -> d.commutator(0, 2, 1), d -> d.associator(0, 2, 7, 1)};
        for (Checks.Script call : tooLarge) {
            Checks.refused(Checks.ARITHMETIC, wide, call);
        }
        Checks.Script[] noState = {d -> d.divide(2, 1, 3, 4), d -> d.steps(2, 1), d -> d.lastNorm(1, 2)};
        for (Checks.Script call : noState) {
            Checks.refused(Checks.STATE, wide, call);
        }
        Checks.refused(Checks.STATE, FULL, d -> d.append('a'));
    }

    private static void withoutText() {
        Checks.sentence("Terms, Undo: the saved state contains everything except the text: registers, order, and what was counted");
        OctavianDesk d = new OctavianDesk();
        long[] first = Checks.look(d);
        for (Checks.Script call : new Checks.Script[] {x -> x.setOrder(6), x -> x.multiply(1, 2, 3), x -> x.divide(4, 5, 6, 7), x -> x.load(9, 0)}) {
            call.on(d);
        }
        Checks.write(d, "a=b*c;h=2a");
        for (int n = 0; n < 4; n++) {
            d.undo();
        }
        Checks.same("all but the text", Checks.look(d), first);
        Checks.is("append", d.append(';'), 11);
        Checks.is("carryOut", d.carryOut(), 2);
        Checks.row(d, 7, Checks.only(4, 4));
        Checks.is("undo", d.undo(), 0);
        Checks.is("carryOut after undo()", d.carryOut(), 2);
        Checks.row(d, 7, Checks.only(4, 4));
        Checks.is("clearText", d.clearText(), 11);
        Checks.is("undo", d.undo(), 0);
        Checks.is("clearText", d.clearText(), 0);
    }

    // ---- promise 30

    /** The values that the document names, told by other calls. */
    private static long hashOf(OctavianDesk d, int length, int saved) {
        List<Long> values = new ArrayList<>();
        values.add((long) length);
        for (int what = 0; what <= 5; what++) {
            values.add((long) d.value(what));
        }
        for (int r = 0; r < 8; r++) {
            for (int i = 0; i < 8; i++) {
                values.add((long) d.coordinate(r, i));
            }
            values.add((long) d.ordersOf(r));
            values.add((long) d.unitOf(r));
        }
        values.add((long) saved);
        return Checks.hash(values);
    }

    private static void digestOfNew() {
        Checks.sentence("Promise 30: the digest of a new desk: no text, no saved state");
        List<Long> values = new ArrayList<>(List.of(0L, 1L, 240L, 0L, 0L, 8L, 0L));
        List<long[]> units = Checks.unitsOf(1);
        for (int r = 0; r < 8; r++) {
            for (long x : Checks.only(r, 2)) {
                values.add(x);
            }
            values.add(255L);
            long number = 0;
            while (units.get((int) number)[r] != 2) {
                number++;
            }
            values.add(number);
        }
        values.add(0L);
        Checks.is("digest", new OctavianDesk().digest(), Checks.hash(values));
    }

    private static void digestOfMany() {
        Checks.sentence("Promise 30: the overflow of long arithmetic is ignored; NONE, negative and large values count as they are");
        Checks.Script[] some = {d -> Checks.put(d, 3, Checks.odd(255, -2000)), d -> Checks.put(d, 0, Checks.odd(255, 2000)),
            d -> Checks.put(d, 7, 1, -1, 1, 0, -1, 0, 0, 0), d -> d.setOrder(0), d -> d.setOrder(7), d -> Checks.put(d, 5, new long[8]),
            d -> d.multiply(1, 2, 4), d -> d.divide(1, 6, 3, 4), d -> d.load(0, 7), d -> d.set(2, 2, 1)};
        for (Checks.Script first : some) {
            for (Checks.Script second : some) {
                OctavianDesk d = new OctavianDesk();
                first.on(d);
                second.on(d);
                int saved = Checks.savedStates(Checks.desk(x -> {
                    first.on(x);
                    second.on(x);
                }));
                Checks.is("digest", d.digest(), hashOf(d, 0, saved));
            }
        }
        Checks.sentence("Promise 30: changes nothing and is not undoable");
        Checks.quiet(TEXT, d -> d.digest());
    }

    private static void digestOfText() {
        Checks.sentence("Promise 30: the length of the text, from 0 to 100, and not its bytes");
        for (int length : new int[] {0, 1, 2, 25, 50, 99, 100}) {
            OctavianDesk d = new OctavianDesk();
            for (int n = 1; n <= length; n++) {
                d.append(n);
            }
            Checks.is("digest", d.digest(), hashOf(d, length, 0));
        }
        Checks.is("digest of two texts of the same length", Checks.desk(FULL).digest(), Checks.desk(x -> Checks.write(x, "?".repeat(100))).digest());
    }

    private static void digestOfSaved() {
        Checks.sentence("Promise 30: the number of saved states, from 0 to 4");
        for (int calls = 0; calls <= 6; calls++) {
            OctavianDesk d = new OctavianDesk();
            for (int n = 1; n <= calls; n++) {
                if (n <= 3) {
                    d.set(0, 1, n);
                } else {
                    d.conjugate(0);
                }
            }
            Checks.is("digest", d.digest(), hashOf(d, 0, Math.min(calls, 4)));
        }
        OctavianDesk e = new OctavianDesk();
        for (int n = 1; n <= 6; n++) {
            e.set(0, 1, n);
        }
        for (int left = 3; left >= 0; left--) {
            e.undo();
            if (left % 3 == 0) {
                Checks.is("digest", e.digest(), hashOf(e, 0, left));
            }
        }
    }
}
