/** The boundaries of the promises 26 to 28, and of what the terms say of the text. */
public final class TextBoundsTest {
    private static final Checks.Script NEW = d -> { };
    private static final String FULL = "a=b;".repeat(25);
    private static final String LETTERS = "abcdefgh";
    private static final String DIGITS = "123456789";
    /** What may begin a factor, and what may come behind one: outside of brackets, and inside. */
    private static final String FACTOR = DIGITS + LETTERS + "(";
    private static final String BEHIND = "'*+-;";
    private static final String BEHIND_INSIDE = "'*+-)";

    public static void main(String[] args) {
        appendRange();
        appendLengths();
        clearText();
        grammar();
        grammarOfBrackets();
        grammarAtTheEnd();
        syntaxErrors();
        letters();
        digits();
        apostrophes();
        leftToRight();
        brackets();
        multipleLimits();
        productLimits();
        sumLimits();
        limitsOnTheWay();
        carriedOut();
        carriedOutPartly();
        savedState();
        Checks.end("TextBoundsTest");
    }

    private static Checks.Script text(String text) {
        return d -> Checks.write(d, text);
    }

    // ---- promises 26 and 27

    private static void appendRange() {
        Checks.sentence("Promise 26: value: the byte, 0 to 127, IllegalArgumentException if out of range");
        for (int value = 0; value < 128; value++) {
            int sign = value;
            Checks.allowed(text("a=b;"), d -> d.append(sign));
        }
        for (int value : new int[] {-1, 128, 129, 255, 256 + 'a', -128, Integer.MIN_VALUE, Integer.MAX_VALUE}) {
            Checks.refused(Checks.ARGUMENT, NEW, d -> d.append(value));
            Checks.refused(Checks.ARGUMENT, text("a=b;"), d -> d.append(value));
            Checks.sentence("Promise 26: of several exceptions the one that is listed first: the byte before the full text");
            Checks.refused(Checks.ARGUMENT, text(FULL), d -> d.append(value));
        }
        Checks.sentence("Promise 26: IllegalStateException if the text has 100 bytes");
        for (int value : new int[] {0, 127, 'a', ';'}) {
            Checks.refused(Checks.STATE, text(FULL), d -> d.append(value));
        }
        Checks.allowed(text(FULL.substring(0, 99)), d -> d.append(';'));
    }

    private static void appendLengths() {
        Checks.sentence("Promise 26: returns the new length of the text, up to 100");
        OctavianDesk d = new OctavianDesk();
        for (int n = 1; n <= 100; n++) {
            Checks.is("append", d.append(n % 2 == 0 ? 0 : 127), n);
        }
        Checks.is("no byte more", Checks.thrownBy(d, x -> x.append('a')) == Checks.STATE, true);
        Checks.is("clearText", d.clearText(), 100);
        Checks.is("append", d.append('a'), 1);
        Checks.sentence("Promise 26: is not undoable, and undo() leaves the text as it is");
        OctavianDesk e = new OctavianDesk();
        Checks.write(e, "h=2b;");
        Checks.is("no saved state", Checks.thrownBy(e, x -> x.undo()) == Checks.STATE, true);
        e.set(0, 0, 5);
        e.append('g');
        Checks.is("undo", e.undo(), 0);
        e.append('=');
        e.append('c');
        Checks.is("append", e.append(';'), 9);
        Checks.is("carryOut", e.carryOut(), 2);
        Checks.row(e, 7, Checks.only(1, 4));
        Checks.row(e, 6, Checks.only(2, 2));
    }

    private static void clearText() {
        Checks.sentence("Promise 27: empties the text, returns the length that it had: from 0 to 100");
        for (int length = 0; length <= 100; length++) {
            OctavianDesk d = new OctavianDesk();
            Checks.write(d, FULL.substring(0, length));
            Checks.is("clearText", d.clearText(), length);
            Checks.is("clearText again", d.clearText(), 0);
            Checks.is("carryOut of no text", d.carryOut(), 0);
        }
        Checks.sentence("Promise 27: is not undoable, and undo() leaves the text empty");
        Checks.quiet(NEW, d -> d.clearText());
        OctavianDesk d = Checks.desk(text("a=b;"));
        d.set(0, 0, 5);
        Checks.is("clearText", d.clearText(), 4);
        Checks.is("undo", d.undo(), 0);
        Checks.is("clearText", d.clearText(), 0);
        Checks.is("no saved state", Checks.thrownBy(d, x -> x.undo()) == Checks.STATE, true);
    }

    // ---- promise 28: which byte can stand where

    private static void isError(String text, int due) {
        OctavianDesk d = new OctavianDesk();
        int got = Checks.carry(d, text);
        Checks.is("carryOut of " + text, got < 0 ? got : 0, due < 0 ? 0 : -10 - due);
    }

    /** Behind a start that is right so far just these of all bytes can stand; it may end there, or not. */
    private static void goesOn(String start, String with, boolean mayEnd) {
        isError(start, mayEnd ? -1 : start.length());
        for (char c = 0; c < 128; c++) {
            OctavianDesk d = new OctavianDesk();
            int got = Checks.carry(d, start + c);
            if (with.indexOf(c) < 0) {
                Checks.is("carryOut of " + start + c, got, -10 - start.length());
                isError(start + c + ";a=b;", start.length());
                isError(start + c + "b", start.length());
            } else {
                Checks.is("whether " + c + " can stand behind " + start, got >= 0 || got == -10 - start.length() - 1, true);
            }
        }
    }

    private static void grammar() {
        Checks.sentence("Terms, Text: an assignment is a register letter a to h, \"=\", and a sum");
        for (String before : new String[] {"", "a=b;", "h=2c*d';a=b;"}) {
            goesOn(before, LETTERS, true);
            goesOn(before + "a", "=", false);
            goesOn(before + "h", "=", false);
            Checks.sentence("Terms, Text: a factor is an optional digit 1 to 9, then a register letter or a sum in brackets");
            goesOn(before + "a=", FACTOR, false);
            goesOn(before + "a=1", LETTERS + "(", false);
            goesOn(before + "a=9", LETTERS + "(", false);
            Checks.sentence("Terms, Text: any number of apostrophes, then a sign or the semicolon");
            goesOn(before + "a=b", BEHIND, false);
            goesOn(before + "a=5h", BEHIND, false);
            goesOn(before + "a=b'", BEHIND, false);
            goesOn(before + "a=b'''", BEHIND, false);
            Checks.sentence("Terms, Text: terms with \"+\" or \"-\" between them, factors with \"*\" between them");
            for (String sign : new String[] {"+", "-", "*"}) {
                goesOn(before + "a=b" + sign, FACTOR, false);
                goesOn(before + "a=b'" + sign + "2", LETTERS + "(", false);
                goesOn(before + "a=b" + sign + "c", BEHIND, false);
                goesOn(before + "a=b*c" + sign + "c'", BEHIND, false);
            }
        }
    }

    private static void grammarOfBrackets() {
        Checks.sentence("Terms, Text: a sum in brackets");
        goesOn("a=(", FACTOR, false);
        goesOn("a=2(", FACTOR, false);
        goesOn("a=((", FACTOR, false);
        goesOn("a=(2", LETTERS + "(", false);
        goesOn("a=(b", BEHIND_INSIDE, false);
        goesOn("a=(b+c'", BEHIND_INSIDE, false);
        goesOn("a=(b*", FACTOR, false);
        goesOn("a=((b)", BEHIND_INSIDE, false);
        goesOn("a=((b)'", BEHIND_INSIDE, false);
        goesOn("a=(b)", BEHIND, false);
        goesOn("a=(b)'", BEHIND, false);
        goesOn("a=(b)*(c", BEHIND_INSIDE, false);
        goesOn("a=(b)*(c)", BEHIND, false);
        Checks.sentence("Terms, Text: brackets can be nested at most 6 deep; a seventh bracket inside of another cannot stand");
        String six = "a=((((((";
        goesOn("a=(((((", FACTOR, false);
        goesOn("a=(((((3", LETTERS + "(", false);
        goesOn(six, DIGITS + LETTERS, false);
        goesOn(six + "3", LETTERS, false);
        goesOn(six + "b", BEHIND_INSIDE, false);
        goesOn(six + "b+", DIGITS + LETTERS, false);
        goesOn(six + "b*", DIGITS + LETTERS, false);
        goesOn(six + "b)-", FACTOR, false);
        goesOn(six + "b)-(", DIGITS + LETTERS, false);
        goesOn(six + "b)))))", BEHIND_INSIDE, false);
        goesOn(six + "b))))))", BEHIND, false);
        goesOn("a=b*(c-(d+(e*(f-(g+(", DIGITS + LETTERS, false);
        Checks.sentence("Terms, Text: brackets behind each other are not nested");
        goesOn(six + "b))))))+((((((", DIGITS + LETTERS, false);
        goesOn(six + "b))))))+((((((c))))))", BEHIND, false);
        goesOn(six + "b))))));c=((((((", DIGITS + LETTERS, false);
        goesOn("a=(b)+(b)+(b)+(b)+(b)+(b)+(b)+(b)+(b)*(", FACTOR, false);
        isError(six + "b))))))*((((((c))))));b=((((((c))))));", -1);
    }

    private static void grammarAtTheEnd() {
        Checks.sentence("Terms, Text: at most 100 bytes; the position is the length of the text if the text ends too early");
        isError(FULL, -1);
        for (int length = 0; length < 100; length++) {
            isError(FULL.substring(0, length), length % 4 == 0 ? -1 : length);
        }
        isError(FULL.substring(0, 99) + "'", 100);
        isError(FULL.substring(0, 98) + "bc", 99);
        isError(FULL.substring(0, 99) + "=", 99);
        isError(FULL.substring(0, 99) + "b", 99);
        isError(FULL.substring(0, 96) + "a=b*", 100);
        isError("a=b" + "'".repeat(97), 100);
        isError("a=b" + "'".repeat(96) + ";", -1);
        isError("a=b" + "+b".repeat(48) + ";", -1);
        isError("a=b" + "*b".repeat(48) + "+", 100);
        Checks.sentence("Promise 28: -10 minus the syntax error position, from 0 to 100");
        Checks.is("the position 0", Checks.carry(new OctavianDesk(), "?" + FULL.substring(1)), -10);
        Checks.is("the position 99", Checks.carry(new OctavianDesk(), FULL.substring(0, 99) + "?"), -109);
        Checks.is("the position 100", Checks.carry(new OctavianDesk(), FULL.substring(0, 98) + "b'"), -110);
    }

    private static void syntaxErrors() {
        String[] wrong = {"a", "a=", "a=b", "a=b;;", "a=b; ", "a=0b;", "a=12b;", "a=(b;", "a=b);", "a=();", "a=b+;", "a=+b;", "a=-b;",
            "a=b''c;", "a=b2;", "i=b;", "a=i;", "A=b;", "a==b;", "a=b=c;", "a=((((((((b))))))));", "a=2c;b=3d;c=4e", "a=b*c;x"};
        for (String text : wrong) {
            Checks.sentence("Promise 28: if there is a syntax error nothing changes, and no state is saved");
            Checks.quiet(text(text), d -> Checks.is("carryOut", d.carryOut() <= -10, true));
            OctavianDesk d = Checks.desk(text(text));
            int position = d.carryOut();
            Checks.sentence("Promise 28: the text stays as it is, with a syntax error too");
            Checks.is("carryOut again", d.carryOut(), position);
            Checks.is("clearText", d.clearText(), text.length());
            Checks.sentence("Promise 28: what a text before left open does not count");
            Checks.is("another text", Checks.carry(d, "a=(((b)));c=((((((d))))));"), 2);
        }
    }

    // ---- promise 28: what the parts of a text mean

    private static void letters() {
        for (int r = 0; r < 8; r++) {
            char letter = LETTERS.charAt(r);
            int other = (r + 3) % 8;
            Checks.sentence("Terms, Registers: the registers are called a to h in texts: behind \"=\"");
            OctavianDesk d = new OctavianDesk();
            Checks.is("carryOut", Checks.carry(d, LETTERS.charAt(other) + "=" + letter + ";"), 1);
            Checks.row(d, other, Checks.only(r, 2));
            Checks.row(d, r, Checks.only(r, 2));
            Checks.sentence("Terms, Registers: the registers are called a to h in texts: before \"=\"");
            OctavianDesk e = new OctavianDesk();
            Checks.is("carryOut", Checks.carry(e, letter + "=" + letter + "-" + letter + ";"), 1);
            for (int i = 0; i < 8; i++) {
                Checks.row(e, i, i == r ? new long[8] : Checks.only(i, 2));
            }
        }
    }

    private static void digits() {
        Checks.sentence("Terms, Text: the digit 1 to 9 multiplies the octonion behind it, a letter or a sum in brackets");
        for (int digit = 1; digit <= 9; digit++) {
            OctavianDesk d = new OctavianDesk();
            Checks.is("carryOut", Checks.carry(d, "a=" + digit + "b;c=" + digit + "(b+d);e=f*" + digit + "f';"), 3);
            Checks.row(d, 0, Checks.only(1, 2 * digit));
            Checks.row(d, 2, 0, 2 * digit, 0, 2 * digit, 0, 0, 0, 0);
            Checks.row(d, 4, Checks.only(0, 2 * digit));
        }
        Checks.sentence("Terms, Text: the digit multiplies its factor alone");
        OctavianDesk d = new OctavianDesk();
        Checks.is("carryOut", Checks.carry(d, "a=3b+c;c=d+3b;d=3(b)-b;"), 3);
        Checks.row(d, 0, 0, 6, 2, 0, 0, 0, 0, 0);
        Checks.row(d, 2, 0, 6, 0, 2, 0, 0, 0, 0);
        Checks.row(d, 3, Checks.only(1, 4));
    }

    private static void apostrophes() {
        Checks.sentence("Terms, Text: any number of apostrophes (39), each of which conjugates");
        for (int n : new int[] {0, 1, 2, 3, 4, 5, 95, 96}) {
            OctavianDesk d = new OctavianDesk();
            d.set(1, 0, 14);
            Checks.is("carryOut", Checks.carry(d, "a=b" + "'".repeat(n) + ";"), 1);
            Checks.row(d, 0, 14, n % 2 == 0 ? 2 : -2, 0, 0, 0, 0, 0, 0);
            Checks.row(d, 1, 14, 2, 0, 0, 0, 0, 0, 0);
        }
        for (int n = 0; n < 4; n++) {
            OctavianDesk d = new OctavianDesk();
            Checks.is("carryOut", Checks.carry(d, "a=2(b*c+d)" + "'".repeat(n) + "*d;"), 1);
            // 2 (e4 + e3) e3 is 2 (e6 minus e0) with another sign of e6; e4 e3 is minus e6.
            int sign = n % 2 == 0 ? 1 : -1;
            Checks.row(d, 0, -4 * sign, 0, 0, 0, 0, 0, -4 * sign, 0);
        }
    }

    private static void leftToRight() {
        Checks.sentence("Terms, Text: terms are added from left to right");
        OctavianDesk d = new OctavianDesk();
        Checks.is("carryOut", Checks.carry(d, "a=b-c+d;e=b-c-d;f=b-(c-d);"), 3);
        Checks.row(d, 0, 0, 2, -2, 2, 0, 0, 0, 0);
        Checks.row(d, 4, 0, 2, -2, -2, 0, 0, 0, 0);
        Checks.row(d, 5, 0, 2, -2, 2, 0, 0, 0, 0);
        Checks.sentence("Terms, Text: factors are multiplied from left to right");
        OctavianDesk e = new OctavianDesk();
        // (e1 e2) e3 is e4 e3, minus e6; e1 (e2 e3) is e1 e5, e6.
        Checks.is("carryOut", Checks.carry(e, "a=b*c*d;f=b*(c*d);h=(b*c)*d;"), 3);
        Checks.row(e, 0, Checks.only(6, -2));
        Checks.row(e, 5, Checks.only(6, 2));
        Checks.row(e, 7, Checks.only(6, -2));
        Checks.sentence("Terms, Text: a term is one or more factors: they are multiplied before terms are added");
        OctavianDesk f = new OctavianDesk();
        Checks.is("carryOut", Checks.carry(f, "a=b+c*d;e=b*c-d;g=(b+c)*d;h=d-b*c*b;"), 4);
        Checks.row(f, 0, 0, 2, 0, 0, 0, 2, 0, 0);
        Checks.row(f, 4, 0, 0, 0, -2, 2, 0, 0, 0);
        // e1 e3 is e7, and e2 e3 is e5; (e1 e2) e1 is e4 e1, e2.
        Checks.row(f, 6, 0, 0, 0, 0, 0, 2, 0, 2);
        Checks.row(f, 7, 0, 0, -2, 2, 0, 0, 0, 0);
    }

    private static void brackets() {
        Checks.sentence("Terms, Text: six brackets inside of each other are worked out, and nothing outside of them is lost");
        OctavianDesk d = new OctavianDesk();
        Checks.is("carryOut", Checks.carry(d, "a=b+2(c-(d+2(e-(f+2(g-(h)')))'));"), 1);
        // h' is minus h, so that e - f - 2g - 2h is in the fourth bracket, and its conjugate is -e + f + 2g + 2h.
        Checks.row(d, 0, 0, 2, 4, -4, 8, -8, -16, -16);
        OctavianDesk e = new OctavianDesk();
        Checks.is("carryOut", Checks.carry(e, "a=b*(c+(d*(e-(f*(g+(h)*b)*c)-d)+e)-f)*g;"), 1);
        OctavianDesk f = new OctavianDesk();
        Checks.is("carryOut", Checks.carry(f, "h=h*b;h=g+h;h=f*h;h=h*c;h=e-h;h=h-d;h=d*h;h=h+e;h=c+h;h=h-f;h=b*h;h=h*g;"), 12);
        for (int i = 0; i < 8; i++) {
            Checks.is("brackets", e.coordinate(0, i), f.coordinate(7, i));
        }
        Checks.is("multiplications", e.value(2), f.value(2));
    }

    // ---- promise 28: what can be put into a register on the way

    private static Checks.Script three(long[] b, long[] c, long[] d) {
        return x -> {
            Checks.put(x, 1, b);
            Checks.put(x, 2, c);
            Checks.put(x, 3, d);
        };
    }

    /** The assignment is carried out, and the register a gets just this. */
    private static void fits(Checks.Script prepare, String sum, long... due) {
        OctavianDesk d = Checks.desk(prepare);
        Checks.is("carryOut of a=" + sum + ";", Checks.carry(d, "a=" + sum + ";"), 1);
        Checks.row(d, 0, due);
    }

    /** It cannot be carried out: nothing but a saved state is new. */
    private static void fails(Checks.Script prepare, String sum) {
        OctavianDesk d = Checks.desk(prepare);
        long[] before = Checks.look(d);
        Checks.is("carryOut of a=" + sum + ";", Checks.carry(d, "a=" + sum + ";"), 0);
        Checks.same("nothing changes", Checks.look(d), before);
    }

    private static void multipleLimits() {
        for (int i = 0; i < 8; i++) {
            for (int sign = -1; sign <= 1; sign += 2) {
                for (int digit = 1; digit <= 9; digit++) {
                    int most = 2000 / digit;
                    long[] zero = new long[8];
                    Checks.sentence("Terms, Text: a multiple of at most 2000 halves can be put into a register");
                    long conjugated = (i == 0 ? 1 : -1) * sign;
                    fits(three(Checks.only(i, most * sign), zero, zero), digit + "b", Checks.only(i, (long) digit * most * sign));
                    fits(three(Checks.only(i, most * sign), zero, zero), digit + "(b)'", Checks.only(i, digit * most * conjugated));
                    Checks.sentence("Terms, Text: a multiple of more halves cannot be carried out");
                    if (digit > 1) {
                        fails(three(Checks.only(i, (most + 1) * sign), zero, zero), digit + "b");
                        fails(three(Checks.only(i, (most + 1) * sign), zero, zero), digit + "(b)'");
                        fails(three(Checks.only(i, (most + 1) * sign), zero, zero), "c+" + digit + "b");
                        fails(three(Checks.only(i, (most + 1) * sign), zero, zero), "c*" + digit + "b");
                    }
                }
            }
        }
    }

    private static void productLimits() {
        long[] zero = new long[8];
        for (int i = 0; i < 8; i++) {
            for (int sign = -1; sign <= 1; sign += 2) {
                Checks.sentence("Terms, Text: a product of 2000 halves can be put into a register");
                fits(three(Checks.only(0, 1000 * sign), Checks.only(i, 4), zero), "b*c", Checks.only(i, 2000 * sign));
                fits(three(Checks.only(i, sign), Checks.only(0, 2), zero), "b*c", Checks.only(i, sign));
                Checks.sentence("Terms, Text: a product of 2001 halves cannot be carried out");
                fails(three(Checks.only(0, 1334 * sign), Checks.only(i, 3), zero), "b*c");
                fails(three(Checks.only(0, 1334 * sign), Checks.only(i, 3), zero), "d+b*c");
                fails(three(Checks.only(0, 1334 * sign), Checks.only(i, 3), zero), "d-(b*c)*d");
                Checks.sentence("Terms, Text: a product that is no multiple of a half cannot be carried out");
                fails(three(Checks.only(0, sign), Checks.only(i, 1), zero), "b*c");
                fails(three(Checks.only(0, 3 * sign), Checks.only(i, 5), zero), "b*c+b*c");
            }
        }
    }

    private static void sumLimits() {
        long[] zero = new long[8];
        for (int i = 0; i < 8; i++) {
            for (int sign = -1; sign <= 1; sign += 2) {
                Checks.Script last = three(Checks.only(i, 1999 * sign), Checks.only(i, sign), zero);
                Checks.Script first = three(Checks.only(i, 2000 * sign), Checks.only(i, sign), zero);
                Checks.sentence("Terms, Text: a sum of 2000 halves can be put into a register");
                fits(last, "b+c", Checks.only(i, 2000 * sign));
                fits(last, "d+b+c", Checks.only(i, 2000 * sign));
                Checks.sentence("Terms, Text: a sum of 2001 halves cannot be carried out");
                fails(first, "b+c");
                fails(first, "d+b+c");
                fails(first, "d-(b+c)*d");
                Checks.sentence("Terms, Text: a difference of 2000 halves can be put into a register");
                fits(last, "d-b-c", Checks.only(i, -2000 * sign));
                fits(last, "d-c-b", Checks.only(i, -2000 * sign));
                Checks.sentence("Terms, Text: a difference of 2001 halves cannot be carried out");
                fails(first, "d-b-c");
                fails(first, "d-c-b");
                fails(first, "d*(d-b-c)");
            }
        }
    }

    private static void limitsOnTheWay() {
        long[] b = Checks.only(3, 2000);
        long[] c = Checks.only(3, 1);
        long[] d = Checks.only(0, 4);
        Checks.Script large = three(b, c, d);
        Checks.sentence("Terms, Text: each sum that is worked out on the way has to fit, not the last one alone");
        fails(large, "b+c-c");
        fails(large, "(b+c)-c");
        fits(large, "b-c+c", b);
        fits(large, "b+(c-c)", b);
        fits(large, "c-c+b", b);
        Checks.sentence("Terms, Text: each difference that is worked out on the way has to fit");
        fails(large, "c-c-b-c+c");
        fails(large, "(c-c-b-c)+b");
        Checks.sentence("Terms, Text: each multiple that is worked out on the way has to fit");
        fails(large, "2b-b");
        fails(large, "(2b)-b");
        fails(large, "2b*(c-c)");
        fails(large, "(c-c)*2b");
        fails(large, "2(2(2(b)))-b");
        fits(large, "2(b-b+c)", Checks.only(3, 2));
        Checks.sentence("Terms, Text: each product that is worked out on the way has to fit");
        fails(large, "b*d*(c-c)");
        fails(large, "b*d-b*d");
        fails(large, "c*c*d");
        fits(large, "c*(c*d)", Checks.only(0, -1));
        fits(large, "d*c*c", Checks.only(0, -1));
        fits(large, "(c-c)*b*d", new long[8]);
        fails(large, "c*c-c*c");
        Checks.sentence("Terms, Text: in brackets as well as outside, however deep");
        fails(large, "c+(c+(c+(c+(c+(b+c)-b)-b)-b)-b)");
        fits(large, "c+(c+(c+(c+(c+(b-c)-b)-b)+b)-b)", Checks.only(3, -1996));
    }

    // ---- promise 28: how many assignments are carried out

    private static void carriedOut() {
        Checks.sentence("Promise 28: there may be no assignments: none is carried out");
        Checks.is("no text", new OctavianDesk().carryOut(), 0);
        Checks.sentence("Promise 28: returns the number of assignments that are carried out: from 1 to 25, which fill the text");
        for (int n = 1; n <= 25; n++) {
            OctavianDesk d = new OctavianDesk();
            Checks.is("carryOut", Checks.carry(d, FULL.substring(0, 4 * n)), n);
            Checks.row(d, 0, Checks.only(1, 2));
        }
        Checks.sentence("Promise 28: one after the other");
        OctavianDesk d = new OctavianDesk();
        Checks.is("carryOut", Checks.carry(d, "a=b+b;b=a+a;a=b+c;c=a;"), 4);
        Checks.row(d, 0, 0, 8, 2, 0, 0, 0, 0, 0);
        Checks.row(d, 1, Checks.only(1, 8));
        Checks.row(d, 2, 0, 8, 2, 0, 0, 0, 0, 0);
        Checks.sentence("Promise 28: the text stays as it is");
        Checks.is("carryOut again", d.carryOut(), 4);
        Checks.row(d, 1, Checks.only(1, 32));
        Checks.is("clearText", d.clearText(), 22);
        Checks.sentence("Promise 28: the register that an assignment is for may stand in its sum");
        OctavianDesk e = new OctavianDesk();
        Checks.is("carryOut", Checks.carry(e, "b=b*c+b*d-b';"), 1);
        Checks.row(e, 1, 0, 2, 0, 0, 2, 0, 0, 2);
    }

    private static void carriedOutPartly() {
        Checks.sentence("Promise 28: up to the first one that cannot be carried out, and no further");
        String[] texts = {"b=2a;c=d;e=f;", "c=d;b=2a;e=f;", "c=d;e=f;b=2a;", "c=d;e=f;b=2a;g=h;b=2a;"};
        int[] due = {0, 1, 2, 2};
        for (int n = 0; n < texts.length; n++) {
            OctavianDesk d = new OctavianDesk();
            d.set(0, 0, 1001);
            Checks.is("carryOut", Checks.carry(d, texts[n]), due[n]);
            Checks.row(d, 1, Checks.only(1, 2));
            Checks.row(d, 2, Checks.only(due[n] > 0 ? 3 : 2, 2));
            Checks.row(d, 4, Checks.only(due[n] > 1 ? 5 : 4, 2));
            Checks.row(d, 6, Checks.only(6, 2));
        }
        Checks.sentence("Promise 28: a failed one leaves its register as it was");
        OctavianDesk d = new OctavianDesk();
        d.set(0, 0, 1001);
        Checks.is("carryOut", Checks.carry(d, "b=c+d*e+2a;"), 0);
        Checks.row(d, 1, Checks.only(1, 2));
        Checks.sentence("Promise 28: with 24 that are carried out before it");
        OctavianDesk e = new OctavianDesk();
        e.set(7, 0, 2000);
        e.set(7, 7, 0);
        Checks.is("carryOut", Checks.carry(e, "a=b;".repeat(23) + "a=h+h;"), 23);
    }

    private static void savedState() {
        Checks.sentence("Promise 28: undoable, one saved state, for no assignment");
        Checks.undoable(NEW, d -> d.carryOut());
        Checks.sentence("Promise 28: undoable, one saved state, for one assignment and for many");
        Checks.undoable(text("a=b;"), d -> d.carryOut());
        Checks.undoable(text("a=b*c;b=2a;c=b*b-a;"), d -> d.carryOut());
        Checks.undoable(text(FULL), d -> d.carryOut());
        Checks.undoable(text("a=a;"), d -> d.carryOut());
        Checks.sentence("Promise 28: undoable, one saved state, also if none is carried out");
        Checks.undoable(d -> {
            d.set(0, 0, 2000);
            Checks.write(d, "a=2a;b=c;");
        }, d -> Checks.is("carryOut", d.carryOut(), 0));
        Checks.sentence("Promise 28: undoable, one saved state, if some are carried out");
        Checks.undoable(d -> {
            d.set(0, 0, 2000);
            Checks.write(d, "b=c*d;a=2a;b=c;");
        }, d -> Checks.is("carryOut", d.carryOut(), 1));
    }
}
