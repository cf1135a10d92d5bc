/** Promise 9: the BLOCKS that write a REGISTER: ADD, SUB, MUL, DIV, LIMIT and REGULATOR. */
public final class CalculatingBlocksTest {
    public static void main(String[] args) {
        Check check = new Check();
        fourKindsOfArithmetic(check);
        withoutPowerNothingIsDone(check);
        resultsMayReachTheLargest(check);
        resultsBeyondAreFaults(check);
        divisionByZero(check);
        limit(check);
        limitFaults(check);
        limitHasNoFaultWithoutPower(check);
        regulatorFollowsItsFormula(check);
        regulatorRests(check);
        regulatorSumIsHeld(check);
        regulatorFaultKeepsSumAndError(check);
        check.end("CalculatingBlocksTest");
    }

    private static void fourKindsOfArithmetic(Check check) {
        double[] due = {7.25, 5.75, 4.875, 6.5 / 0.75};
        for (int kind = 4; kind < 8; kind++) {
            ScanForge x = Rig.withBlock(kind, 7, 3, 6, 0);
            x.set(7, 6.5);
            x.set(3, 0.75);
            x.scan(1);
            check.same("kind " + kind, x.register(6), due[kind - 4]);
            check.same("a stays", x.register(7), 6.5);
            check.same("b stays", x.register(3), 0.75);
            check.same("no fault", x.count(3), 0);
            check.same("nothing counted", x.told(0, 1), 0);
        }
        ScanForge y = Rig.withBlock(Rig.ADD, 0, 1, 0, 0);
        y.set(1, 0.1);
        y.scan(10);
        check.same("doubles, step by step", y.register(0), 0.1 + 0.1 + 0.1 + 0.1 + 0.1 + 0.1 + 0.1 + 0.1 + 0.1 + 0.1);
        ScanForge z = Rig.withBlock(Rig.SUB, 1, 1, 1, 0);
        z.set(1, 4);
        z.scan(1);
        check.same("all the same register", z.register(1), 0.0);
    }

    private static void withoutPowerNothingIsDone(Check check) {
        for (int kind = 4; kind < 10; kind++) {
            ScanForge x = Rig.withBlock(kind, 0, 1, 2, 5);
            x.set(0, 3);
            x.set(1, 4);
            x.set(2, 77);
            x.input(0, false);
            x.scan(2);
            check.same("kind " + kind, x.register(2), 77.0);
            check.same("runs", x.told(0, 3), 2);
        }
        ScanForge y = Rig.withBlock(Rig.DIV, 0, 1, 2, 0);
        y.input(0, false);
        check.same("no fault without power", y.scan(1), 1);
    }

    private static void resultsMayReachTheLargest(Check check) {
        double[][] exact = {{4, 6e11, 4e11, 1e12}, {4, -6e11, -4e11, -1e12}, {5, 5e11, -5e11, 1e12},
            {5, -1e12, 0, -1e12}, {6, 1e6, 1e6, 1e12}, {6, -1e6, 1e6, -1e12}, {7, 1e12, 1, 1e12},
            {7, 1e11, -0.1, -1e12}};
        for (double[] e : exact) {
            ScanForge x = Rig.withBlock((int) e[0], 0, 1, 2, 0);
            x.set(0, e[1]);
            x.set(1, e[2]);
            x.scan(1);
            check.same("kind " + e[0] + " of " + e[1] + " and " + e[2], x.register(2), e[3]);
        }
    }

    private static void resultsBeyondAreFaults(Check check) {
        double[][] beyond = {{4, 1e12, 0.001}, {4, -1e12, -0.001}, {4, 1e12, 1e12}, {5, 1e12, -1}, {5, -1e12, 1},
            {6, 1e12, 1.0000001}, {6, -1e12, 1e12}, {7, 1e12, 0.5}, {7, 1e12, -1e-300}, {7, -1, Double.MIN_VALUE}};
        for (double[] e : beyond) {
            ScanForge x = Rig.withBlock((int) e[0], 0, 1, 2, 0);
            x.set(0, e[1]);
            x.set(1, e[2]);
            x.set(2, 5);
            check.same("kind " + e[0] + " of " + e[1] + " and " + e[2], Rig.halts(x), true);
            check.same("register stays", x.register(2), 5.0);
            check.same("fault", x.told(0, 4), 1);
        }
    }

    private static void divisionByZero(Check check) {
        for (double a : new double[] {1, 0, -1}) {
            for (double b : new double[] {0.0, -0.0}) {
                ScanForge x = Rig.withBlock(Rig.DIV, 0, 1, 2, 0);
                x.set(0, a);
                x.set(1, b);
                x.set(2, 5);
                check.same(a + " by " + b, Rig.halts(x), true);
                check.same("register stays", x.register(2), 5.0);
            }
        }
        ScanForge y = Rig.withBlock(Rig.DIV, 0, 1, 2, 0);
        y.set(1, 1e-300);
        check.same("0 by little", Rig.halts(y), false);
    }

    private static void limit(Check check) {
        double[][] cases = {{3, 1, 5, 3}, {0, 1, 5, 1}, {6, 1, 5, 5}, {1, 1, 5, 1}, {5, 1, 5, 5}, {9, 5, 5, 5},
            {-9, 5, 5, 5}, {-1e12, -1e12, -1000, -1e12}, {1e12, 0, 1000, 1000}, {-7.5, -8.25, -7.75, -7.75}};
        for (double[] e : cases) {
            ScanForge x = Rig.withBlock(Rig.LIMIT, 0, 1, 2, e[2]);
            x.set(0, e[0]);
            x.set(1, e[1]);
            x.scan(1);
            check.same(e[0] + " from " + e[1] + " to " + e[2], x.register(2), e[3]);
        }
    }

    private static void limitFaults(Check check) {
        double[][] cases = {{3, 5.5, 5}, {0, 1e12, 1000}, {0, -999.5, -1000}};
        for (double[] e : cases) {
            ScanForge x = Rig.withBlock(Rig.LIMIT, 0, 1, 2, e[2]);
            x.set(0, e[0]);
            x.set(1, e[1]);
            x.set(2, 44);
            check.same("from " + e[1] + " to " + e[2], Rig.halts(x), true);
            check.same("register stays", x.register(2), 44.0);
        }
    }

    private static void limitHasNoFaultWithoutPower(Check check) {
        ScanForge x = Rig.withBlock(Rig.LIMIT, 0, 1, 2, 5);
        x.set(1, 6);
        x.input(0, false);
        check.same("no fault", Rig.halts(x), false);
    }

    private static void regulatorFollowsItsFormula(Check check) {
        ScanForge x = Rig.withBlock(Rig.REGULATOR, 4, 5, 6, -2.5);
        double sum = 0;
        double before = 0;
        for (int i = 0; i < 12; i++) {
            double a = i * 1.7 - 4;
            double b = 9 - i * i * 0.3;
            x.set(4, a);
            x.set(5, b);
            x.scan(1);
            double e = b - a;
            sum = sum + e * 0.125;
            check.same("step " + i, x.register(6), -2.5 * (e + sum + (e - before) * 0.5));
            before = e;
        }
        check.same("nothing counted", x.told(0, 1), 0);
    }

    private static void regulatorRests(Check check) {
        ScanForge x = Rig.withBlock(Rig.REGULATOR, 0, 1, 2, 1);
        x.set(1, 8);
        x.scan(1);
        check.same("8 + 1 + 4", x.register(2), 13.0);
        x.scan(1);
        check.same("8 + 2 + 0", x.register(2), 10.0);
        x.input(0, false);
        x.scan(1);
        check.same("register stays", x.register(2), 10.0);
        x.input(0, true);
        x.scan(1);
        check.same("from the beginning", x.register(2), 13.0);
    }

    private static void regulatorSumIsHeld(Check check) {
        for (int sign = -1; sign < 2; sign += 2) {
            ScanForge x = Rig.withBlock(Rig.REGULATOR, 0, 1, 2, 1);
            x.set(1, sign * 8000.0);
            x.scan(1);
            check.same("just 1000", x.register(2), sign * 13000.0);
            x.scan(3);
            check.same("held at 1000", x.register(2), sign * 9000.0);
            x.set(1, sign * -8.0);
            x.scan(1);
            check.same("one step back", x.register(2), sign * (-8 + 999 - 4004.0));
        }
    }

    private static void regulatorFaultKeepsSumAndError(Check check) {
        ScanForge x = Rig.withBlock(Rig.REGULATOR, 0, 1, 2, 1000);
        x.set(1, 1e9);
        x.set(2, 3);
        check.same("fault", Rig.halts(x), true);
        check.same("register stays", x.register(2), 3.0);
        x.resume();
        x.set(1, 0);
        x.scan(1);
        check.same("sum 1000, e before 1e9", x.register(2), 1000 * (0 + 1000 + (0 - 1e9) * 0.5));
        ScanForge y = Rig.withBlock(Rig.REGULATOR, 0, 1, 2, -1000);
        y.guard(0, true);
        y.set(0, 1e9);
        y.scan(1);
        check.same("guard", y.bit(23), true);
        check.same("register stays when guarded", y.register(2), 0.0);
        y.set(0, 0);
        y.scan(1);
        check.same("sum -1000, e before -1e9", y.register(2), -1000 * (0 - 1000 + (0 + 1e9) * 0.5));
    }
}
