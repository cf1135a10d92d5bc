/** Wires the rungs that the tests need most often. */
final class Rig {
    static final int OPEN = 0;
    static final int WIRE = 1;
    static final int CONTACT = 2;
    static final int INVERSE = 3;
    static final int RISE = 4;
    static final int FALL = 5;

    static final int OUT = 1;
    static final int SET = 2;
    static final int RESET = 3;
    static final int BLOCK = 4;

    static final int DELAY = 1;
    static final int COUNTER = 2;
    static final int REACH = 3;
    static final int ADD = 4;
    static final int SUB = 5;
    static final int MUL = 6;
    static final int DIV = 7;
    static final int LIMIT = 8;
    static final int REGULATOR = 9;

    private Rig() {
    }

    /** A row that conducts as its first cell does. */
    static void row(ScanForge x, int g, int row, int kind, int bit) {
        x.cell(g, row, 0, kind, bit);
        for (int column = 1; column < 4; column++) {
            x.cell(g, row, column, WIRE, 0);
        }
    }

    /** A row that always has power at its end. */
    static void wires(ScanForge x, int g, int row) {
        row(x, g, row, WIRE, 0);
    }

    /** Rung 0, row 0 runs block 0 with the power of input 0, which is on. */
    static ScanForge withBlock(int kind, int a, int b, int c, double n) {
        ScanForge x = new ScanForge();
        row(x, 0, 0, CONTACT, 0);
        x.coil(0, 0, BLOCK, 0);
        x.block(0, kind, a, b, c, n);
        x.input(0, true);
        return x;
    }

    /** A scan that may end in a fault, for tests that look at what is left behind it. */
    static boolean halts(ScanForge x) {
        try {
            x.scan(1);
            return false;
        } catch (ArithmeticException e) {
            return true;
        }
    }
}
