/**
 * A controller for machines: rungs of contacts, coils at their ends, and blocks
 * that are run by coils, scan after scan. README.md shows how it is used.
 */
public final class ScanForge {
    private static final int BITS = 24;
    private static final int INPUTS = 8;
    private static final int FIRST_OUTPUT = 8;
    private static final int LAST_OUTPUT = 15;
    private static final int LAST_BLOCK_BIT = 21;
    private static final int COUNTER_RESET_BIT = 22;
    private static final int GUARD_BIT = 23;

    private static final int REGISTERS = 8;
    private static final int RUNGS = 5;
    private static final int ROWS = 3;
    private static final int COLUMNS = 4;
    private static final int BLOCKS = 8;

    private static final int CELL_OPEN = 0;
    private static final int CELL_WIRE = 1;
    private static final int CELL_CONTACT = 2;
    private static final int CELL_INVERSE = 3;
    private static final int CELL_RISE = 4;
    private static final int CELL_FALL = 5;

    private static final int COIL_NONE = 0;
    private static final int COIL_OUT = 1;
    private static final int COIL_SET = 2;
    private static final int COIL_RESET = 3;
    private static final int COIL_BLOCK = 4;

    private static final int BLOCK_NOTHING = 0;
    private static final int BLOCK_DELAY = 1;
    private static final int BLOCK_COUNTER = 2;
    private static final int BLOCK_REACH = 3;
    private static final int BLOCK_ADD = 4;
    private static final int BLOCK_SUB = 5;
    private static final int BLOCK_MUL = 6;
    private static final int BLOCK_DIV = 7;
    private static final int BLOCK_LIMIT = 8;
    private static final int BLOCK_REGULATOR = 9;

    private static final int TOLD_KIND = 0;
    private static final int TOLD_COUNTED = 1;
    private static final int TOLD_GUARDED = 2;
    private static final int TOLD_RUNS = 3;
    private static final int TOLD_FAULTS = 4;

    private static final int COUNT_SCANS = 0;
    private static final int COUNT_HALTED = 1;
    private static final int COUNT_BITS_ON = 2;
    private static final int COUNT_FAULTS = 3;

    private static final int MOST_SCANS_A_CALL = 50;
    private static final int MOST_COUNTED = 1000;
    private static final int LARGEST_SETTING = 1000;
    private static final int LARGEST_SUM = 1000;
    private static final long LARGEST_VALUE = 1_000_000_000_000L;
    private static final int NO_BLOCK = -1;

    private final boolean[] bits;
    private final double[] registers;
    private final Rung[] rungs;
    private final Block[] blocks;
    private int scans;
    private int faults;
    private int haltedBy;

    public ScanForge() {
        bits = new boolean[BITS];
        registers = new double[REGISTERS];
        rungs = new Rung[RUNGS];
        for (int g = 0; g < RUNGS; g++) {
            rungs[g] = new Rung();
        }
        blocks = new Block[BLOCKS];
        for (int k = 0; k < BLOCKS; k++) {
            blocks[k] = new Block();
        }
        haltedBy = NO_BLOCK;
    }

    public int cell(int g, int row, int column, int kind, int bit)
            throws IllegalArgumentException, IndexOutOfBoundsException {
        demandNumbers(isCell(kind, bit));
        demandPlace(isRow(g, row) && isIndex(column, COLUMNS));
        return rungs[g].changeCell(row, column, kind, bit);
    }

    public boolean link(int g, int row, int column, boolean is) throws IndexOutOfBoundsException {
        demandPlace(isIndex(g, RUNGS) && isIndex(row, ROWS - 1) && isIndex(column, COLUMNS));
        return rungs[g].changeLink(row, column, is);
    }

    public int coil(int g, int row, int kind, int n)
            throws IllegalArgumentException, IndexOutOfBoundsException {
        demandNumbers(isCoil(kind, n));
        demandPlace(isRow(g, row));
        return rungs[g].changeCoil(row, kind, n);
    }

    public int block(int k, int kind, int a, int b, int c, double n)
            throws IllegalArgumentException, IndexOutOfBoundsException {
        demandNumbers(isBlock(kind, a, b, c, n));
        demandPlace(isIndex(k, BLOCKS));
        return blocks[k].become(kind, a, b, c, n);
    }

    public boolean guard(int k, boolean is) throws IndexOutOfBoundsException {
        demandPlace(isIndex(k, BLOCKS));
        boolean was = blocks[k].guarded;
        blocks[k].guarded = is;
        return was;
    }

    public boolean input(int i, boolean on) throws IndexOutOfBoundsException {
        demandPlace(isIndex(i, INPUTS));
        boolean was = bits[i];
        bits[i] = on;
        return was;
    }

    public double set(int i, double v) throws IllegalArgumentException, IndexOutOfBoundsException {
        demandNumbers(isValue(v));
        demandPlace(isIndex(i, REGISTERS));
        double was = registers[i];
        registers[i] = v;
        return was;
    }

    public int scan(int n) throws IllegalArgumentException, IllegalStateException, ArithmeticException {
        demandNumbers(isBetween(n, 1, MOST_SCANS_A_CALL));
        if (isHalted()) {
            throw new IllegalStateException("the controller is halted");
        }
        for (int done = 0; done < n; done++) {
            scanOnce();
            if (isHalted()) {
                throw new ArithmeticException("a fault of a block halts the controller");
            }
        }
        return scans;
    }

    public int resume() {
        int was = haltedBy;
        haltedBy = NO_BLOCK;
        return was;
    }

    public boolean bit(int i) throws IndexOutOfBoundsException {
        demandPlace(isIndex(i, BITS));
        return bits[i];
    }

    public double register(int i) throws IndexOutOfBoundsException {
        demandPlace(isIndex(i, REGISTERS));
        return registers[i];
    }

    public boolean power(int g, int row, int column) throws IndexOutOfBoundsException {
        demandPlace(isRow(g, row) && isBetween(column, -1, COLUMNS - 1));
        return rungs[g].hadPower(row, column);
    }

    public int told(int k, int what) throws IllegalArgumentException, IndexOutOfBoundsException {
        demandNumbers(isBetween(what, TOLD_KIND, TOLD_FAULTS));
        demandPlace(isIndex(k, BLOCKS));
        return blocks[k].tell(what);
    }

    public int count(int what) throws IllegalArgumentException {
        demandNumbers(isBetween(what, COUNT_SCANS, COUNT_FAULTS));
        switch (what) {
            case COUNT_SCANS:
                return scans;
            case COUNT_HALTED:
                return isHalted() ? 1 : 0;
            case COUNT_BITS_ON:
                return bitsOn();
            default:
                return faults;
        }
    }

    private static void demandNumbers(boolean areAsSaid) {
        if (!areAsSaid) {
            throw new IllegalArgumentException("a number is not as the document says");
        }
    }

    private static void demandPlace(boolean isThere) {
        if (!isThere) {
            throw new IndexOutOfBoundsException("there is no such place");
        }
    }

    private static boolean isBetween(int i, int low, int high) {
        return i >= low && i <= high;
    }

    private static boolean isIndex(int i, int size) {
        return i >= 0 && i < size;
    }

    private static boolean isRow(int g, int row) {
        return isIndex(g, RUNGS) && isIndex(row, ROWS);
    }

    private static boolean looksAtBit(int cellKind) {
        return isBetween(cellKind, CELL_CONTACT, CELL_FALL);
    }

    private static boolean isCell(int kind, int bit) {
        return isBetween(kind, CELL_OPEN, CELL_FALL) && (!looksAtBit(kind) || isIndex(bit, BITS));
    }

    private static boolean isCoil(int kind, int n) {
        switch (kind) {
            case COIL_NONE:
                return true;
            case COIL_OUT:
            case COIL_SET:
            case COIL_RESET:
                return isBetween(n, FIRST_OUTPUT, BITS - 1);
            case COIL_BLOCK:
                return isIndex(n, BLOCKS);
            default:
                return false;
        }
    }

    private static boolean isBlock(int kind, int a, int b, int c, double n) {
        switch (kind) {
            case BLOCK_NOTHING:
                return true;
            case BLOCK_DELAY:
            case BLOCK_COUNTER:
                return isBlockBit(c) && isCountable(n);
            case BLOCK_REACH:
                return areRegisters(a, b) && isBlockBit(c);
            case BLOCK_ADD:
            case BLOCK_SUB:
            case BLOCK_MUL:
            case BLOCK_DIV:
                return areRegisters(a, b) && isIndex(c, REGISTERS);
            case BLOCK_LIMIT:
            case BLOCK_REGULATOR:
                return areRegisters(a, b) && isIndex(c, REGISTERS) && isSetting(n);
            default:
                return false;
        }
    }

    private static boolean areRegisters(int a, int b) {
        return isIndex(a, REGISTERS) && isIndex(b, REGISTERS);
    }

    private static boolean isBlockBit(int i) {
        return isBetween(i, FIRST_OUTPUT, LAST_BLOCK_BIT);
    }

    private static boolean isCountable(double n) {
        return n >= 1 && n <= MOST_COUNTED && n == (int) n;
    }

    private static boolean isSetting(double n) {
        return n >= -LARGEST_SETTING && n <= LARGEST_SETTING;
    }

    // Both comparisons fail for what is no number, so that is no value either.
    private static boolean isValue(double v) {
        return v >= -LARGEST_VALUE && v <= LARGEST_VALUE;
    }

    private boolean isHalted() {
        return haltedBy != NO_BLOCK;
    }

    private int bitsOn() {
        int on = 0;
        for (int i = 0; i < BITS; i++) {
            if (bits[i]) {
                on++;
            }
        }
        return on;
    }

    private void scanOnce() {
        scans++;
        for (int g = 0; g < RUNGS && !isHalted(); g++) {
            rungs[g].look(bits);
            for (int row = 0; row < ROWS && !isHalted(); row++) {
                drive(rungs[g].coilKinds[row], rungs[g].coilNumbers[row], rungs[g].hadPower(row, COLUMNS - 1));
            }
        }
    }

    private void drive(int coilKind, int n, boolean powered) {
        switch (coilKind) {
            case COIL_OUT:
                bits[n] = powered;
                break;
            case COIL_SET:
                bits[n] = bits[n] || powered;
                break;
            case COIL_RESET:
                bits[n] = bits[n] && !powered;
                break;
            case COIL_BLOCK:
                if (!blocks[n].run(powered, bits, registers)) {
                    takeFault(n);
                }
                break;
            default:
                break;
        }
    }

    private void takeFault(int k) {
        faults++;
        if (blocks[k].guarded) {
            bits[GUARD_BIT] = true;
            return;
        }
        for (int i = FIRST_OUTPUT; i <= LAST_OUTPUT; i++) {
            bits[i] = false;
        }
        haltedBy = k;
    }

    /** A RUNG: its CELLS, LINKS and COILS, and the POWER that its latest look found. */
    private static final class Rung {
        // One place more a row than there are columns: the POWER before all of them.
        private static final int POWERS = COLUMNS + 1;

        private final int[] cellKinds = new int[ROWS * COLUMNS];
        private final int[] cellBits = new int[ROWS * COLUMNS];
        private final boolean[] wasOn = new boolean[ROWS * COLUMNS];
        private final boolean[] links = new boolean[(ROWS - 1) * COLUMNS];
        private final boolean[] powers = new boolean[ROWS * POWERS];
        private final int[] coilKinds = new int[ROWS];
        private final int[] coilNumbers = new int[ROWS];

        int changeCell(int row, int column, int kind, int bit) {
            int at = row * COLUMNS + column;
            int was = cellKinds[at];
            cellKinds[at] = kind;
            // A bit that is not looked at may be any number, so it is not kept as an index.
            cellBits[at] = looksAtBit(kind) ? bit : 0;
            wasOn[at] = false;
            return was;
        }

        boolean changeLink(int row, int column, boolean is) {
            int at = row * COLUMNS + column;
            boolean was = links[at];
            links[at] = is;
            return was;
        }

        int changeCoil(int row, int kind, int n) {
            int was = coilKinds[row];
            coilKinds[row] = kind;
            coilNumbers[row] = n;
            return was;
        }

        boolean hadPower(int row, int column) {
            return powers[row * POWERS + column + 1];
        }

        void look(boolean[] bits) {
            for (int row = 0; row < ROWS; row++) {
                powers[row * POWERS] = true;
            }
            for (int column = 0; column < COLUMNS; column++) {
                for (int row = 0; row < ROWS; row++) {
                    // Looked at before the POWER is asked for: a CELL without POWER remembers its BIT too.
                    boolean conducts = lookAtCell(row * COLUMNS + column, bits);
                    powers[row * POWERS + column + 1] = conducts && hadPower(row, column - 1);
                }
                join(0, column);
                join(1, column);
                // Once more, since ROW 1 may have got its POWER from ROW 2 just now.
                join(0, column);
            }
        }

        private boolean lookAtCell(int at, boolean[] bits) {
            boolean on = bits[cellBits[at]];
            boolean was = wasOn[at];
            wasOn[at] = on;
            switch (cellKinds[at]) {
                case CELL_WIRE:
                    return true;
                case CELL_CONTACT:
                    return on;
                case CELL_INVERSE:
                    return !on;
                case CELL_RISE:
                    return on && !was;
                case CELL_FALL:
                    return !on && was;
                default:
                    return false;
            }
        }

        private void join(int row, int column) {
            if (!links[row * COLUMNS + column]) {
                return;
            }
            int upper = row * POWERS + column + 1;
            int lower = upper + POWERS;
            boolean either = powers[upper] || powers[lower];
            powers[upper] = either;
            powers[lower] = either;
        }
    }

    /** A BLOCK: its KIND, the numbers it works with, and what it remembers from RUN to RUN. */
    private static final class Block {
        private int kind;
        private int a;
        private int b;
        private int c;
        private double n;
        private boolean guarded;
        private int counted;
        private boolean hadPower;
        private double sum;
        private double errorBefore;
        private int runs;
        private int faults;

        int become(int newKind, int newA, int newB, int newC, double newN) {
            int was = kind;
            kind = newKind;
            a = newA;
            b = newB;
            c = newC;
            n = newN;
            counted = 0;
            hadPower = false;
            sum = 0;
            errorBefore = 0;
            runs = 0;
            faults = 0;
            return was;
        }

        int tell(int what) {
            switch (what) {
                case TOLD_KIND:
                    return kind;
                case TOLD_COUNTED:
                    return counted;
                case TOLD_GUARDED:
                    return guarded ? 1 : 0;
                case TOLD_RUNS:
                    return runs;
                default:
                    return faults;
            }
        }

        /** Answers false if it ends in a FAULT. */
        boolean run(boolean powered, boolean[] bits, double[] registers) {
            runs++;
            boolean sound = true;
            switch (kind) {
                case BLOCK_NOTHING:
                    break;
                case BLOCK_DELAY:
                    delay(powered, bits);
                    break;
                case BLOCK_COUNTER:
                    countRuns(powered, bits);
                    break;
                case BLOCK_REACH:
                    bits[c] = powered ? registers[a] < registers[b] : bits[c];
                    break;
                case BLOCK_REGULATOR:
                    sound = regulate(powered, registers);
                    break;
                default:
                    sound = !powered || calculate(registers);
                    break;
            }
            if (!sound) {
                faults++;
            }
            return sound;
        }

        private void delay(boolean powered, boolean[] bits) {
            if (!powered) {
                counted = 0;
            } else if (counted < n) {
                counted++;
            }
            bits[c] = counted >= n;
        }

        private void countRuns(boolean powered, boolean[] bits) {
            if (bits[COUNTER_RESET_BIT]) {
                counted = 0;
            } else if (powered && !hadPower && counted < n) {
                counted++;
            }
            hadPower = powered;
            bits[c] = counted >= n;
        }

        private boolean calculate(double[] registers) {
            double x = registers[a];
            double y = registers[b];
            switch (kind) {
                case BLOCK_ADD:
                    return keep(x + y, registers);
                case BLOCK_SUB:
                    return keep(x - y, registers);
                case BLOCK_MUL:
                    return keep(x * y, registers);
                case BLOCK_DIV:
                    return y != 0 && keep(x / y, registers);
                default:
                    return y <= n && keep(limited(x, y, n), registers);
            }
        }

        private boolean regulate(boolean powered, double[] registers) {
            if (!powered) {
                sum = 0;
                errorBefore = 0;
                return true;
            }
            double error = registers[b] - registers[a];
            double change = error - errorBefore;
            sum = limited(sum + error * 0.125, -LARGEST_SUM, LARGEST_SUM);
            errorBefore = error;
            return keep(n * (error + sum + change * 0.5), registers);
        }

        private boolean keep(double value, double[] registers) {
            if (!isValue(value)) {
                return false;
            }
            registers[c] = value;
            return true;
        }

        private static double limited(double value, double low, double high) {
            return value < low ? low : value > high ? high : value;
        }
    }
}
