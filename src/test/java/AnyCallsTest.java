import java.util.Random;

/** All promises: long runs of calls, right and wrong ones, answer as the Model does and throw nothing else. */
public final class AnyCallsTest {
    private static final int OBJECTS = 2500;
    // What an object answers after 512 calls is free, and compare() needs 151 of them.
    private static final int CALLS = 350;
    private static final double[] VALUES = {0, -0.0, 1, -1, 2.5, 8, -3, 0.125, 1000, 1e6, -1e6, 1e9, 1e12, -1e12,
        1e-300, Double.MIN_VALUE};
    private static final double[] WRONG_VALUES = {1.0000001e12, -1e13, Double.NaN, Double.POSITIVE_INFINITY,
        Double.NEGATIVE_INFINITY};

    private final Random random;
    private final Check check;
    private final ScanForge x = new ScanForge();
    private final Model m = new Model();
    private final String name;
    private int calls = 0;

    private AnyCallsTest(int seed, Check check) {
        this.random = new Random(seed);
        this.check = check;
        this.name = "seed " + seed;
    }

    public static void main(String[] args) {
        Check check = new Check();
        for (int seed = 0; seed < OBJECTS; seed++) {
            AnyCallsTest run = new AnyCallsTest(seed, check);
            while (run.calls < CALLS) {
                run.call();
            }
            run.compare();
        }
        check.end("AnyCallsTest");
    }

    /** From 0 to size - 1, but now and then beside it. */
    private int index(int size) {
        return random.nextInt(60) == 0 ? (random.nextBoolean() ? -1 : size) : random.nextInt(size);
    }

    private static boolean within(int i, int low, int high) {
        return low <= i && i <= high;
    }

    private void expect(String what, boolean numbers, boolean place, Check.Call call, Object due) {
        calls++;
        if (!numbers) {
            check.raises(name + " " + what, Check.BAD_NUMBER, call);
        } else if (!place) {
            check.raises(name + " " + what, Check.BAD_PLACE, call);
        } else {
            Object got = call.answer();
            boolean same = got instanceof Double d ? d.doubleValue() == (Double) due : got.equals(due);
            if (!same) {
                check.tell(name + " " + what + " answered " + got + ", due is " + due);
            }
        }
    }

    private void call() {
        int most = calls < 120 ? 8 : 16;
        switch (random.nextInt(most)) {
            case 0, 1, 2 -> cell();
            case 3 -> link();
            case 4, 5 -> coil();
            case 6 -> block();
            case 7 -> set();
            case 8 -> guard();
            case 9, 10 -> input();
            case 11, 12, 13 -> scan();
            case 14 -> resume();
            default -> read();
        }
    }

    private void cell() {
        int g = index(5);
        int row = index(3);
        int column = index(4);
        int kind = random.nextInt(3) == 0 ? 1 : index(6);
        int bit = index(24);
        boolean numbers = within(kind, 0, 5) && (kind < 2 || within(bit, 0, 23));
        boolean place = within(g, 0, 4) && within(row, 0, 2) && within(column, 0, 3);
        Object due = place ? m.cellKind[g][row][column] : null;
        expect("cell", numbers, place, () -> x.cell(g, row, column, kind, bit), due);
        if (numbers && place) {
            m.cellKind[g][row][column] = kind;
            m.cellBit[g][row][column] = bit;
            m.seenOn[g][row][column] = false;
        }
    }

    private void link() {
        int g = index(5);
        int row = index(2);
        int column = index(4);
        boolean is = random.nextInt(3) > 0;
        boolean place = within(g, 0, 4) && within(row, 0, 1) && within(column, 0, 3);
        expect("link", true, place, () -> x.link(g, row, column, is), place ? m.link[g][row][column] : null);
        if (place) {
            m.link[g][row][column] = is;
        }
    }

    private void coil() {
        int g = index(5);
        int row = index(3);
        int kind = random.nextBoolean() ? 4 : index(5);
        int n = kind == 4 ? index(8) : 7 + random.nextInt(18);
        boolean numbers = kind == 0 || kind == 4 && within(n, 0, 7) || within(kind, 1, 3) && within(n, 8, 23);
        boolean place = within(g, 0, 4) && within(row, 0, 2);
        expect("coil", numbers, place, () -> x.coil(g, row, kind, n), place ? m.coilKind[g][row] : null);
        if (numbers && place) {
            m.coilKind[g][row] = kind;
            m.coilNumber[g][row] = n;
        }
    }

    private void block() {
        int k = index(8);
        int kind = index(10);
        int a = index(8);
        int b = index(8);
        int c = kind > 3 ? index(8) : 8 + index(14);
        double n = kind < 3 && random.nextInt(9) > 0 ? 1 + random.nextInt(6) : random.nextInt(8) * 290.5 - 1000;
        boolean registers = within(a, 0, 7) && within(b, 0, 7);
        boolean numbers = kind == 0
            || within(kind, 1, 2) && within(c, 8, 21) && n == Math.rint(n) && n >= 1 && n <= 1000
            || kind == 3 && registers && within(c, 8, 21)
            || within(kind, 4, 7) && registers && within(c, 0, 7)
            || within(kind, 8, 9) && registers && within(c, 0, 7) && Math.abs(n) <= 1000;
        boolean place = within(k, 0, 7);
        expect("block", numbers, place, () -> x.block(k, kind, a, b, c, n), place ? m.blockNumbers[k][0] : null);
        if (numbers && place) {
            m.newBlock(k, kind, a, b, c, n);
        }
    }

    private void set() {
        int i = index(8);
        boolean numbers = random.nextInt(12) > 0;
        double[] from = numbers ? VALUES : WRONG_VALUES;
        double v = from[random.nextInt(from.length)];
        boolean place = within(i, 0, 7);
        expect("set", numbers, place, () -> x.set(i, v), place ? m.registers[i] : null);
        if (numbers && place) {
            m.registers[i] = v;
        }
    }

    private void guard() {
        int k = index(8);
        boolean is = random.nextInt(3) > 0;
        boolean place = within(k, 0, 7);
        expect("guard", true, place, () -> x.guard(k, is), place ? m.guarded[k] : null);
        if (place) {
            m.guarded[k] = is;
        }
    }

    private void input() {
        int i = index(8);
        boolean on = random.nextBoolean();
        boolean place = within(i, 0, 7);
        expect("input", true, place, () -> x.input(i, on), place ? m.bits[i] : null);
        if (place) {
            m.bits[i] = on;
        }
    }

    private void scan() {
        int n = random.nextInt(4) == 0 ? random.nextInt(53) - 1 : 1 + random.nextInt(3);
        boolean numbers = within(n, 1, 50);
        calls++;
        if (numbers && m.halter >= 0) {
            check.raises(name + " scan", Check.HALTED, () -> x.scan(n));
        } else if (numbers && m.scan(n)) {
            check.raises(name + " scan", Check.FAULT, () -> x.scan(n));
        } else {
            expect("scan", numbers, true, () -> x.scan(n), m.scans);
        }
        read();
    }

    private void resume() {
        expect("resume", true, true, () -> x.resume(), m.halter);
        m.halter = -1;
    }

    private void read() {
        int i = index(24);
        expect("bit", true, within(i, 0, 23), () -> x.bit(i), within(i, 0, 23) ? m.bits[i] : null);
        int k = index(8);
        boolean place = within(k, 0, 7);
        expect("register", true, place, () -> x.register(k), place ? m.registers[k] : null);
        int what = index(5);
        boolean told = within(what, 0, 4);
        expect("told", told, place, () -> x.told(k, what), told && place ? told(k, what) : null);
        expect("count", within(what, 0, 3), true, () -> x.count(what), within(what, 0, 3) ? count(what) : null);
    }

    private int told(int k, int what) {
        int[] due = {m.blockNumbers[k][0], m.counted[k], m.guarded[k] ? 1 : 0, m.runs[k], m.blockFaults[k]};
        return due[what];
    }

    private int count(int what) {
        int on = 0;
        for (boolean bit : m.bits) {
            on += bit ? 1 : 0;
        }
        int[] due = {m.scans, m.halter >= 0 ? 1 : 0, on, m.faults};
        return due[what];
    }

    private void compare() {
        for (int i = 0; i < 24; i++) {
            check.same(name + " bit " + i, x.bit(i), m.bits[i]);
        }
        for (int i = 0; i < 8; i++) {
            check.same(name + " register " + i, x.register(i), m.registers[i]);
            for (int what = 0; what < 5; what++) {
                check.same(name + " told " + i + " " + what, x.told(i, what), told(i, what));
            }
        }
        for (int what = 0; what < 4; what++) {
            check.same(name + " count " + what, x.count(what), count(what));
        }
        for (int i = 0; i < 75; i++) {
            boolean got = x.power(i / 15, i / 5 % 3, i % 5 - 1);
            check.same(name + " power " + i, got, m.power[i / 15][i / 5 % 3][i % 5]);
        }
    }
}
