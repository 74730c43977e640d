/** A desk of eight registers with octonions, told in halves; ../shared/DOC.md says what each call does. */
public final class OctavianDesk {
    public static final int NONE = -1;

    private static final int REGISTERS = 8;
    private static final int ORDERS = 8;
    private static final int MOST_SAVED = 4;
    private static final int MOST_NORM = 1000;
    private static final int MOST_STEPS = 40;

    private final State now;
    private final State[] saved;
    private int savedCount;
    private final Units[] units;
    private final Division division;
    private final Text text;
    private final Calculator calculator;
    private final long[] result;
    private final long[] other;
    private final long[] inner;

    public OctavianDesk() {
        now = new State();
        saved = new State[MOST_SAVED];
        for (int i = 0; i < MOST_SAVED; i++) {
            saved[i] = new State();
        }
        savedCount = 0;
        units = new Units[ORDERS];
        division = new Division();
        text = new Text();
        calculator = new Calculator(text);
        result = new long[Rows.LENGTH];
        other = new long[Rows.LENGTH];
        inner = new long[Rows.LENGTH];
    }

    // ---- registers

    public int set(int register, int index, int halves) throws IndexOutOfBoundsException, IllegalArgumentException {
        needRegister(register);
        needIndex(index);
        needHalves(halves);
        saveState();
        long[] row = now.registers[register];
        int before = (int) row[index];
        row[index] = halves;
        return before;
    }

    public long setFour(int register, boolean upper, int a, int b, int c, int d)
            throws IndexOutOfBoundsException, IllegalArgumentException {
        needRegister(register);
        needHalves(a);
        needHalves(b);
        needHalves(c);
        needHalves(d);
        saveState();
        long[] row = now.registers[register];
        int first = upper ? 4 : 0;
        row[first] = a;
        row[first + 1] = b;
        row[first + 2] = c;
        row[first + 3] = d;
        return Rows.quarters(row);
    }

    public int setOrder(int order) throws IllegalArgumentException {
        if (order < 0 || order >= ORDERS) {
            throw new IllegalArgumentException("no such order");
        }
        saveState();
        int before = now.order;
        now.order = order;
        return before;
    }

    public int load(int unit, int to) throws IndexOutOfBoundsException {
        if (unit < 0 || unit >= Units.count(now.order)) {
            throw new IndexOutOfBoundsException("no such unit");
        }
        needRegister(to);
        saveState();
        presentUnits().read(unit, now.registers[to]);
        return (int) now.registers[to][0];
    }

    public long add(int a, int b, int to, boolean subtract) throws IndexOutOfBoundsException, ArithmeticException {
        needRegister(a);
        needRegister(b);
        needRegister(to);
        Rows.total(now.registers[a], now.registers[b], subtract, result);
        needFit(Rows.fit(result, Rows.HALVES));
        saveState();
        return put(to);
    }

    public long multiply(int a, int b, int to) throws IndexOutOfBoundsException, ArithmeticException {
        needRegister(a);
        needRegister(b);
        needRegister(to);
        Rows.product(now.registers[a], now.registers[b], result);
        needFit(Rows.fit(result, Rows.QUARTERS));
        saveState();
        now.multiplications++;
        return put(to);
    }

    public int conjugate(int register) throws IndexOutOfBoundsException {
        needRegister(register);
        saveState();
        Rows.mirror(now.registers[register]);
        return (int) now.registers[register][0];
    }

    public long commutator(int a, int b, int to) throws IndexOutOfBoundsException, ArithmeticException {
        needRegister(a);
        needRegister(b);
        needRegister(to);
        Rows.product(now.registers[a], now.registers[b], result);
        Rows.product(now.registers[b], now.registers[a], other);
        Rows.total(result, other, true, result);
        needFit(Rows.fit(result, Rows.QUARTERS));
        saveState();
        return put(to);
    }

    public long associator(int a, int b, int c, int to) throws IndexOutOfBoundsException, ArithmeticException {
        needRegister(a);
        needRegister(b);
        needRegister(c);
        needRegister(to);
        workAssociator(a, b, c);
        needFit(Rows.fit(result, Rows.EIGHTHS));
        saveState();
        return put(to);
    }

    public long divide(int a, int b, int quotient, int remainder)
            throws IndexOutOfBoundsException, IllegalArgumentException, IllegalStateException, ArithmeticException {
        needRegister(a);
        needRegister(b);
        needRegister(quotient);
        needRegister(remainder);
        if (quotient == remainder) {
            throw new IllegalArgumentException("quotient and remainder are the same register");
        }
        needDivisible(a, b);
        division.work(now.registers[a], now.registers[b], now.order);
        needFit(Rows.fit(division.quotient, Rows.HALVES));
        needFit(Rows.fit(division.remainder, Rows.HALVES));
        saveState();
        now.divisions++;
        Rows.copy(division.quotient, now.registers[quotient]);
        Rows.copy(division.remainder, now.registers[remainder]);
        return Rows.quarters(division.remainder);
    }

    // ---- values

    public int coordinate(int register, int index) throws IndexOutOfBoundsException {
        needRegister(register);
        needIndex(index);
        return (int) now.registers[register][index];
    }

    public long norm(int register) throws IndexOutOfBoundsException {
        needRegister(register);
        return Rows.quarters(now.registers[register]);
    }

    public long dot(int a, int b) throws IndexOutOfBoundsException {
        needRegister(a);
        needRegister(b);
        return Rows.inner(now.registers[a], now.registers[b]);
    }

    public int ordersOf(int register) throws IndexOutOfBoundsException {
        needRegister(register);
        int odd = Rows.oddSet(now.registers[register]);
        int orders = 0;
        for (int n = 0; n < ORDERS; n++) {
            if (Orders.allows(n, odd)) {
                orders |= 1 << n;
            }
        }
        return orders;
    }

    public int left(int register, int row, int column) throws IndexOutOfBoundsException {
        needRegister(register);
        needIndex(row);
        needIndex(column);
        Rows.clear(other);
        other[column] = 1;
        // The factor is a whole basis element, not half of one, so the product stays in halves.
        Rows.product(now.registers[register], other, result);
        return (int) result[row];
    }

    public int unitOf(int register) throws IndexOutOfBoundsException {
        needRegister(register);
        return presentUnits().numberOf(now.registers[register]);
    }

    public int value(int what) throws IllegalArgumentException {
        switch (what) {
            case 0:
                return now.order;
            case 1:
                return Units.count(now.order);
            case 2:
                return now.multiplications;
            case 3:
                return now.divisions;
            case 4:
                return registersInOrder();
            case 5:
                return zeroRegisters();
            default:
                throw new IllegalArgumentException("no such value");
        }
    }

    // ---- what if

    public int dimension(int registers) throws IllegalArgumentException {
        if (registers < 1 || registers > 255) {
            throw new IllegalArgumentException("no such set of registers");
        }
        int first = NONE;
        int second = NONE;
        for (int r = 0; r < REGISTERS; r++) {
            if (((registers >> r) & 1) == 0) {
                continue;
            }
            if (first == NONE) {
                first = Rows.isReal(now.registers[r]) ? NONE : r;
            } else if (second == NONE) {
                // What commutes with the first one lies in the plane of e0 and the first one.
                second = Rows.parallel(now.registers[first], now.registers[r]) ? NONE : r;
            } else if (!associates(first, second, r)) {
                // The first two make a quaternion algebra; just its elements associate with them.
                return 8;
            }
        }
        if (first == NONE) {
            return 1;
        }
        return second == NONE ? 2 : 4;
    }

    public boolean commute(int a, int b) throws IndexOutOfBoundsException {
        needRegister(a);
        needRegister(b);
        return Rows.parallel(now.registers[a], now.registers[b]);
    }

    public boolean associate(int a, int b, int c) throws IndexOutOfBoundsException {
        needRegister(a);
        needRegister(b);
        needRegister(c);
        return associates(a, b, c);
    }

    public long elements(int norm) throws IllegalArgumentException {
        if (norm < 0 || norm > MOST_NORM) {
            throw new IllegalArgumentException("norm out of range");
        }
        return Orders.elementsOfNorm(now.order, norm);
    }

    public int steps(int a, int b) throws IndexOutOfBoundsException, IllegalStateException {
        needRegister(a);
        needRegister(b);
        needDivisible(a, b);
        return division.euclid(now.registers[a], now.registers[b], now.order, MOST_STEPS);
    }

    public long lastNorm(int a, int b) throws IndexOutOfBoundsException, IllegalStateException {
        needRegister(a);
        needRegister(b);
        needDivisible(a, b);
        int told = division.euclid(now.registers[a], now.registers[b], now.order, MOST_STEPS);
        return told == NONE ? NONE : Rows.quarters(division.divisor);
    }

    public int commuting(int register) throws IndexOutOfBoundsException {
        needRegister(register);
        Units present = presentUnits();
        int all = Units.count(now.order);
        int found = 0;
        for (int unit = 0; unit < all; unit++) {
            present.read(unit, other);
            if (Rows.parallel(other, now.registers[register])) {
                found++;
            }
        }
        return found;
    }

    // ---- text

    public int append(int value) throws IllegalArgumentException, IllegalStateException {
        if (value < 0 || value > 127) {
            throw new IllegalArgumentException("no such byte");
        }
        if (text.isFull()) {
            throw new IllegalStateException("the text is full");
        }
        text.put(value);
        return text.length;
    }

    public int clearText() {
        int before = text.length;
        text.length = 0;
        return before;
    }

    public int carryOut() {
        int error = text.syntaxError();
        if (error != NONE) {
            return -10 - error;
        }
        saveState();
        return calculator.carryOutAll(now);
    }

    // ---- state

    public int undo() throws IllegalStateException {
        if (savedCount <= 0) {
            throw new IllegalStateException("no saved state");
        }
        savedCount--;
        now.takeFrom(saved[savedCount]);
        return savedCount;
    }

    public long digest() {
        long h = 31L * 3761 + text.length;
        for (int what = 0; what <= 5; what++) {
            h = 31 * h + value(what);
        }
        for (int r = 0; r < REGISTERS; r++) {
            for (int i = 0; i < Rows.LENGTH; i++) {
                h = 31 * h + coordinate(r, i);
            }
            h = 31 * h + ordersOf(r);
            h = 31 * h + unitOf(r);
        }
        return 31 * h + savedCount;
    }

    // ---- what the calls share

    private static void needRegister(int register) {
        if (register < 0 || register >= REGISTERS) {
            throw new IndexOutOfBoundsException("no such register");
        }
    }

    private static void needIndex(int index) {
        if (index < 0 || index >= Rows.LENGTH) {
            throw new IndexOutOfBoundsException("no such coordinate");
        }
    }

    private static void needHalves(int halves) {
        if (halves < -Rows.MOST_HALVES || halves > Rows.MOST_HALVES) {
            throw new IllegalArgumentException("halves out of range");
        }
    }

    private static void needFit(boolean fits) {
        if (!fits) {
            throw new ArithmeticException("the result cannot be put into a register");
        }
    }

    private void needDivisible(int a, int b) {
        if (!isInOrder(a) || !isInOrder(b) || Rows.isZero(now.registers[b])) {
            throw new IllegalStateException("not in the present order, or the divisor is 0");
        }
    }

    /** Listed when an order is first asked for its units, and kept: most desks ask few of the orders. */
    private Units presentUnits() {
        if (units[now.order] == null) {
            units[now.order] = new Units(now.order);
        }
        return units[now.order];
    }

    private boolean isInOrder(int register) {
        return Orders.allows(now.order, Rows.oddSet(now.registers[register]));
    }

    private int registersInOrder() {
        int found = 0;
        for (int r = 0; r < REGISTERS; r++) {
            if (isInOrder(r)) {
                found++;
            }
        }
        return found;
    }

    private int zeroRegisters() {
        int found = 0;
        for (int r = 0; r < REGISTERS; r++) {
            if (Rows.isZero(now.registers[r])) {
                found++;
            }
        }
        return found;
    }

    /** Leaves (a b) c - a (b c) in the result, in eighths, so that nothing is rounded on the way. */
    private void workAssociator(int a, int b, int c) {
        Rows.product(now.registers[a], now.registers[b], inner);
        Rows.product(inner, now.registers[c], result);
        Rows.product(now.registers[b], now.registers[c], inner);
        Rows.product(now.registers[a], inner, other);
        Rows.total(result, other, true, result);
    }

    private boolean associates(int a, int b, int c) {
        workAssociator(a, b, c);
        return Rows.isZero(result);
    }

    private long put(int to) {
        Rows.copy(result, now.registers[to]);
        return Rows.quarters(result);
    }

    private void saveState() {
        if (savedCount == MOST_SAVED) {
            State oldest = saved[0];
            for (int i = 1; i < MOST_SAVED; i++) {
                saved[i - 1] = saved[i];
            }
            // The dropped state is used again, so that a call makes no new one.
            saved[MOST_SAVED - 1] = oldest;
            savedCount--;
        }
        saved[savedCount].takeFrom(now);
        savedCount++;
    }

    /** Everything that undo() restores. */
    private static final class State {
        final long[][] registers = new long[REGISTERS][Rows.LENGTH];
        int order = 1;
        int multiplications = 0;
        int divisions = 0;

        State() {
            for (int r = 0; r < REGISTERS; r++) {
                registers[r][r] = 2;
            }
        }

        void takeFrom(State source) {
            for (int r = 0; r < REGISTERS; r++) {
                Rows.copy(source.registers[r], registers[r]);
            }
            order = source.order;
            multiplications = source.multiplications;
            divisions = source.divisions;
        }
    }

    /** Octonions as rows of 8 numbers. No function makes a row: what it answers goes into one that its caller has. */
    private static final class Rows {
        static final int LENGTH = 8;
        static final int MOST_HALVES = 2000;
        // The part of a half that a row counts in, as the number of bits that it is finer.
        static final int HALVES = 0;
        static final int QUARTERS = 1;
        static final int EIGHTHS = 2;
        static final int[] TRIPLES = {1, 2, 4, 2, 3, 5, 3, 4, 6, 4, 5, 7, 5, 6, 1, 6, 7, 2, 7, 1, 3};

        /** The row out must be another one than a and b, as it is written while they are read. */
        static void product(long[] a, long[] b, long[] out) {
            out[0] = a[0] * b[0];
            for (int i = 1; i < LENGTH; i++) {
                out[0] -= a[i] * b[i];
                out[i] = a[0] * b[i] + a[i] * b[0];
            }
            for (int t = 0; t + 2 < TRIPLES.length; t += 3) {
                int i = TRIPLES[t];
                int j = TRIPLES[t + 1];
                int k = TRIPLES[t + 2];
                out[k] += a[i] * b[j] - a[j] * b[i];
                out[i] += a[j] * b[k] - a[k] * b[j];
                out[j] += a[k] * b[i] - a[i] * b[k];
            }
        }

        static void total(long[] a, long[] b, boolean subtract, long[] out) {
            for (int i = 0; i < LENGTH; i++) {
                out[i] = subtract ? a[i] - b[i] : a[i] + b[i];
            }
        }

        static void mirror(long[] row) {
            for (int i = 1; i < LENGTH; i++) {
                row[i] = -row[i];
            }
        }

        static void scale(long[] row, int times) {
            for (int i = 0; i < LENGTH; i++) {
                row[i] *= times;
            }
        }

        static void copy(long[] from, long[] to) {
            for (int i = 0; i < LENGTH; i++) {
                to[i] = from[i];
            }
        }

        static void clear(long[] row) {
            for (int i = 0; i < LENGTH; i++) {
                row[i] = 0;
            }
        }

        /** Turns a row into halves and tells whether a register can hold it; if not, the row is spoilt. */
        static boolean fit(long[] row, int finer) {
            long whole = 1L << finer;
            for (int i = 0; i < LENGTH; i++) {
                if ((row[i] & (whole - 1)) != 0) {
                    return false;
                }
                row[i] >>= finer;
                if (row[i] < -MOST_HALVES || row[i] > MOST_HALVES) {
                    return false;
                }
            }
            return true;
        }

        static long inner(long[] a, long[] b) {
            long sum = 0;
            for (int i = 0; i < LENGTH; i++) {
                sum += a[i] * b[i];
            }
            return sum;
        }

        /** Only for rows that are no larger than a register's: the squares of an associator's do not fit into a long. */
        static long quarters(long[] row) {
            return inner(row, row);
        }

        /** Each number is looked at, as a sum of squares may wrap round to 0. */
        static boolean isZero(long[] row) {
            for (int i = 0; i < LENGTH; i++) {
                if (row[i] != 0) {
                    return false;
                }
            }
            return true;
        }

        static int oddSet(long[] row) {
            int set = 0;
            for (int i = 0; i < LENGTH; i++) {
                if ((row[i] & 1) != 0) {
                    set |= 1 << i;
                }
            }
            return set;
        }

        static boolean isReal(long[] row) {
            for (int i = 1; i < LENGTH; i++) {
                if (row[i] != 0) {
                    return false;
                }
            }
            return true;
        }

        /** Octonions commute just if their parts without the coordinate 0 are parallel: cheaper than two products. */
        static boolean parallel(long[] a, long[] b) {
            for (int i = 1; i < LENGTH; i++) {
                for (int j = i + 1; j < LENGTH; j++) {
                    if (a[i] * b[j] != a[j] * b[i]) {
                        return false;
                    }
                }
            }
            return true;
        }
    }

    /** The orders, told by the sets of indices that may be odd in halves together; a set is an int, a bit an index. */
    private static final class Orders {
        static final int ALL_INDICES = 0b11111111;
        /** None, or 0 and a triple. The other eight sets are those that these leave out of all indices. */
        static final int[] SETS = {0b00000000, 0b00010111, 0b00101101, 0b01011001,
            0b10110001, 0b01100011, 0b11000101, 0b10001011};

        static int sets(int order) {
            return order == 0 ? 1 : 2 * SETS.length;
        }

        static int oddSet(int order, int number) {
            int set = SETS[number & 7];
            return exchanged(number < SETS.length ? set : ALL_INDICES ^ set, order);
        }

        static int exchanged(int set, int n) {
            int differs = (set ^ (set >> n)) & 1;
            return set ^ (differs | (differs << n));
        }

        static boolean allows(int order, int odd) {
            int sets = sets(order);
            for (int number = 0; number < sets; number++) {
                if (oddSet(order, number) == odd) {
                    return true;
                }
            }
            return false;
        }

        /** Counted by Jacobi's rule for eight squares, and for the orders 1 to 7 as in the lattice E8. */
        static long elementsOfNorm(int order, int norm) {
            if (norm == 0) {
                return 1;
            }
            long sum = 0;
            for (int d = 1; d <= norm; d++) {
                if (norm % d == 0) {
                    long cube = (long) d * d * d;
                    sum += order == 0 && (norm + d) % 2 != 0 ? -cube : cube;
                }
            }
            return (order == 0 ? 16 : 240) * sum;
        }
    }

    /** The units of one order. A unit is kept as one int, 3 bits a coordinate. */
    private static final class Units {
        final int[] codes;
        private int filled;

        Units(int order) {
            codes = new int[count(order)];
            filled = 0;
            long[] row = new long[Rows.LENGTH];
            for (int i = 0; i < Rows.LENGTH; i++) {
                row[i] = 2;
                insert(code(row));
                row[i] = -2;
                insert(code(row));
                row[i] = 0;
            }
            int sets = Orders.sets(order);
            for (int number = 0; number < sets; number++) {
                int odd = Orders.oddSet(order, number);
                for (int signs = 0; signs < 16 && Integer.bitCount(odd) == 4; signs++) {
                    spread(odd, signs, row);
                    insert(code(row));
                }
            }
        }

        static int count(int order) {
            return order == 0 ? 16 : 240;
        }

        void read(int unit, long[] out) {
            if (unit < 0 || unit >= codes.length) {
                return;
            }
            for (int i = 0; i < Rows.LENGTH; i++) {
                out[i] = ((codes[unit] >> (3 * (Rows.LENGTH - 1 - i))) & 7) - 2;
            }
        }

        int numberOf(long[] row) {
            // Only the norm 1 keeps the coordinates in the range that a code can tell.
            if (Rows.quarters(row) != 4) {
                return NONE;
            }
            int sought = code(row);
            for (int unit = 0; unit < codes.length; unit++) {
                if (codes[unit] == sought) {
                    return unit;
                }
            }
            return NONE;
        }

        /** Each coordinate is raised by 2 and the first one stands highest: so codes are ordered as their rows are. */
        private static int code(long[] row) {
            int code = 0;
            for (int i = 0; i < Rows.LENGTH; i++) {
                code = (code << 3) | ((int) row[i] + 2);
            }
            return code;
        }

        private static void spread(int odd, int signs, long[] row) {
            int rest = signs;
            for (int i = 0; i < Rows.LENGTH; i++) {
                row[i] = 0;
                if (((odd >> i) & 1) != 0) {
                    row[i] = (rest & 1) == 0 ? 1 : -1;
                    rest >>= 1;
                }
            }
        }

        private void insert(int code) {
            if (filled < 0 || filled >= codes.length) {
                return;
            }
            int at = filled;
            for (; at > 0 && codes[at - 1] > code; at--) {
                codes[at] = codes[at - 1];
            }
            codes[at] = code;
            filled++;
        }
    }

    /** Division with remainder in an order, in rows of its own: they hold what no register could. */
    private static final class Division {
        final long[] quotient = new long[Rows.LENGTH];
        final long[] remainder = new long[Rows.LENGTH];
        final long[] dividend = new long[Rows.LENGTH];
        final long[] divisor = new long[Rows.LENGTH];
        private final long[] product = new long[Rows.LENGTH];
        private final long[] mirrored = new long[Rows.LENGTH];
        private final long[] trial = new long[Rows.LENGTH];
        // For even (0) and odd (1) halves: the nearest ones, and how far they are, squared.
        private final long[][] nearest = new long[2][Rows.LENGTH];
        private final long[][] distance = new long[2][Rows.LENGTH];

        /** The elements a and b are in the order, and b is not 0. */
        void work(long[] a, long[] b, int order) {
            Rows.copy(b, mirrored);
            Rows.mirror(mirrored);
            Rows.product(a, mirrored, product);
            findNearest(Rows.quarters(b));
            chooseQuotient(order);
            Rows.product(quotient, b, product);
            for (int i = 0; i < Rows.LENGTH; i++) {
                remainder[i] = a[i] - (product[i] >> 1);
            }
        }

        /** All is multiplied by the norm, so that whole numbers stay: the product over the norm is sought, in halves. */
        private void findNearest(long norm) {
            if (norm <= 0) {
                return;
            }
            for (int odd = 0; odd < 2; odd++) {
                for (int i = 0; i < Rows.LENGTH; i++) {
                    long sought = 2 * product[i];
                    // Rounded so that of two equally near ones the lower is taken: its row comes first.
                    long pairs = -Math.floorDiv(norm + odd * norm - sought, 2 * norm);
                    long halves = 2 * pairs + odd;
                    long off = norm * halves - sought;
                    nearest[odd][i] = halves;
                    distance[odd][i] = off * off;
                }
            }
        }

        /** Within one set of odd indices the coordinates are free of each other, so each set has one candidate. */
        private void chooseQuotient(int order) {
            int sets = Orders.sets(order);
            long least = 0;
            for (int number = 0; number < sets; number++) {
                int odd = Orders.oddSet(order, number);
                long far = 0;
                for (int i = 0; i < Rows.LENGTH; i++) {
                    int parity = (odd >> i) & 1;
                    trial[i] = nearest[parity][i];
                    far += distance[parity][i];
                }
                if (number == 0 || far < least || (far == least && comesFirst(trial, quotient))) {
                    least = far;
                    Rows.copy(trial, quotient);
                }
            }
        }

        private static boolean comesFirst(long[] a, long[] b) {
            for (int i = 0; i < Rows.LENGTH; i++) {
                if (a[i] != b[i]) {
                    return a[i] < b[i];
                }
            }
            return false;
        }

        /** Answers the number of divisions and leaves the last divisor; NONE beyond the most. */
        int euclid(long[] a, long[] b, int order, int most) {
            Rows.copy(a, dividend);
            Rows.copy(b, divisor);
            for (int done = 1; done <= most; done++) {
                work(dividend, divisor, order);
                if (Rows.isZero(remainder)) {
                    return done;
                }
                Rows.copy(divisor, dividend);
                Rows.copy(remainder, divisor);
            }
            return NONE;
        }
    }

    /** The bytes of the text, and which of them cannot stand where it stands. */
    private static final class Text {
        static final int CAPACITY = 100;
        static final int DEEPEST = 6;
        // What the byte that comes next is to be.
        private static final int TARGET = 0;
        private static final int EQUALS = 1;
        private static final int FACTOR = 2;
        private static final int AFTER_DIGIT = 3;
        private static final int AFTER_FACTOR = 4;

        final byte[] bytes = new byte[CAPACITY];
        int length = 0;
        private int depth = 0;

        boolean isFull() {
            return length >= CAPACITY;
        }

        void put(int value) {
            if (length >= 0 && length < CAPACITY) {
                bytes[length] = (byte) value;
                length++;
            }
        }

        /** The byte at a position; 0, which has no meaning in a text, where there is none. */
        int at(int position) {
            return position >= 0 && position < length && position < CAPACITY ? bytes[position] : 0;
        }

        static boolean isLetter(int sign) {
            return sign >= 'a' && sign <= 'h';
        }

        static boolean isDigit(int sign) {
            return sign >= '1' && sign <= '9';
        }

        int syntaxError() {
            int expected = TARGET;
            depth = 0;
            for (int i = 0; i < length; i++) {
                expected = follow(expected, at(i));
                if (expected == NONE) {
                    return i;
                }
            }
            return expected == TARGET ? NONE : length;
        }

        private int follow(int expected, int sign) {
            switch (expected) {
                case TARGET:
                    return isLetter(sign) ? EQUALS : NONE;
                case EQUALS:
                    return sign == '=' ? FACTOR : NONE;
                case FACTOR:
                    return isDigit(sign) ? AFTER_DIGIT : followOperand(sign);
                case AFTER_DIGIT:
                    return followOperand(sign);
                default:
                    return followFactor(sign);
            }
        }

        private int followOperand(int sign) {
            if (sign == '(' && depth < DEEPEST) {
                depth++;
                return FACTOR;
            }
            return isLetter(sign) ? AFTER_FACTOR : NONE;
        }

        private int followFactor(int sign) {
            if (sign == '\'') {
                return AFTER_FACTOR;
            }
            if (sign == '*' || sign == '+' || sign == '-') {
                return FACTOR;
            }
            if (sign == ')' && depth > 0) {
                depth--;
                return AFTER_FACTOR;
            }
            return sign == ';' && depth == 0 ? TARGET : NONE;
        }
    }

    /** Carries out a text without a syntax error. Each depth of brackets has rows of its own. */
    private static final class Calculator {
        private final Text text;
        private final long[][] sums = new long[Text.DEEPEST + 1][Rows.LENGTH];
        private final long[][] terms = new long[Text.DEEPEST + 1][Rows.LENGTH];
        private final long[][] factors = new long[Text.DEEPEST + 1][Rows.LENGTH];
        private final long[] product = new long[Rows.LENGTH];
        private int cursor = 0;
        private int products = 0;

        Calculator(Text text) {
            this.text = text;
        }

        int carryOutAll(State state) {
            cursor = 0;
            int done = 0;
            for (; done < Text.CAPACITY && cursor < text.length; done++) {
                if (!carryOutNext(state)) {
                    return done;
                }
            }
            return done;
        }

        private boolean carryOutNext(State state) {
            int to = text.at(cursor) - 'a';
            cursor += 2;
            products = 0;
            if (to < 0 || to >= REGISTERS || !workSum(state, 0)) {
                return false;
            }
            cursor++;
            Rows.copy(sums[0], state.registers[to]);
            // Counted only now: an assignment that fails has made no multiplications.
            state.multiplications += products;
            return true;
        }

        private boolean workSum(State state, int depth) {
            if (depth < 0 || depth > Text.DEEPEST || !workTerm(state, depth)) {
                return false;
            }
            Rows.copy(terms[depth], sums[depth]);
            for (int n = 0; n < Text.CAPACITY && (text.at(cursor) == '+' || text.at(cursor) == '-'); n++) {
                boolean subtract = text.at(cursor) == '-';
                cursor++;
                if (!workTerm(state, depth)) {
                    return false;
                }
                Rows.total(sums[depth], terms[depth], subtract, sums[depth]);
                if (!Rows.fit(sums[depth], Rows.HALVES)) {
                    return false;
                }
            }
            return true;
        }

        private boolean workTerm(State state, int depth) {
            if (!workFactor(state, depth)) {
                return false;
            }
            Rows.copy(factors[depth], terms[depth]);
            for (int n = 0; n < Text.CAPACITY && text.at(cursor) == '*'; n++) {
                cursor++;
                if (!workFactor(state, depth)) {
                    return false;
                }
                Rows.product(terms[depth], factors[depth], product);
                if (!Rows.fit(product, Rows.QUARTERS)) {
                    return false;
                }
                Rows.copy(product, terms[depth]);
                products++;
            }
            return true;
        }

        private boolean workFactor(State state, int depth) {
            int times = 1;
            if (Text.isDigit(text.at(cursor))) {
                times = text.at(cursor) - '0';
                cursor++;
            }
            if (!workOperand(state, depth)) {
                return false;
            }
            for (int n = 0; n < Text.CAPACITY && text.at(cursor) == '\''; n++) {
                Rows.mirror(factors[depth]);
                cursor++;
            }
            Rows.scale(factors[depth], times);
            return Rows.fit(factors[depth], Rows.HALVES);
        }

        private boolean workOperand(State state, int depth) {
            int sign = text.at(cursor);
            cursor++;
            if (Text.isLetter(sign)) {
                Rows.copy(state.registers[sign - 'a'], factors[depth]);
                return true;
            }
            if (sign != '(' || depth >= Text.DEEPEST || !workSum(state, depth + 1)) {
                return false;
            }
            Rows.copy(sums[depth + 1], factors[depth]);
            cursor++;
            return true;
        }
    }
}
