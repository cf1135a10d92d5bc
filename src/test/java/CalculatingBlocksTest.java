/** Promise 9: the BLOCKS that write a REGISTER: ADD, SUB, MUL, DIV, LIMIT and REGULATOR. */
public final class CalculatingBlocksTest {
    public static void main(String[] args) {
        Check check = new Check();
        fourKindsOfArithmetic(check);
        withoutPowerNothingIsDone(check);
        regulatorFollowsItsFormula(check);
        regulatorRests(check);
        resultsMayReachTheLargest(check);
        theFirstResultBeyondIsAFault(check);
        resultsFarBeyondAreFaults(check);
        aDifferenceTooSmallToBeSeenIsNoFault(check);
        divisionByZero(check);
        divisionByTheLeast(check);
        eachRegisterCanBeUsed(check);
        limit(check);
        limitAtItsEnds(check);
        limitWithEqualEnds(check);
        limitWhoseEndsAreCrossed(check);
        limitHasNoFaultWithoutPower(check);
        regulatorSumReaches1000(check);
        regulatorSumIsHeldAt1000(check);
        regulatorSumComesBackFrom1000(check);
        regulatorForgetsWithoutPower(check);
        regulatorMayReachTheLargest(check);
        regulatorBeyondIsAFault(check);
        regulatorOfZero(check);
        regulatorFaultKeepsSumAndError(check);
        regulatorFaultKeepsSumAndErrorWhenGuarded(check);
        check.end("CalculatingBlocksTest");
    }

    private static void fourKindsOfArithmetic(Check check) {
        double[] due = {7.25, 5.75, 4.875, 6.5 / 0.75};
        for (int kind = 4; kind < 8; kind++) {
            ScanForge x = Rig.withBlock(kind, 7, 3, 6, 0);
            x.set(7, 6.5);
            x.set(3, 0.75);
            x.scan(1);
            check.same("kind " + kind, x.register(6), due[kind - 4]);
            check.same("a stays", x.register(7), 6.5);
            check.same("b stays", x.register(3), 0.75);
            check.same("no fault", x.count(3), 0);
            check.same("nothing counted", x.told(0, 1), 0);
        }
        ScanForge y = Rig.withBlock(Rig.ADD, 0, 1, 0, 0);
        y.set(1, 0.1);
        y.scan(10);
        check.same("doubles, step by step", y.register(0), 0.1 + 0.1 + 0.1 + 0.1 + 0.1 + 0.1 + 0.1 + 0.1 + 0.1 + 0.1);
        ScanForge z = Rig.withBlock(Rig.SUB, 1, 1, 1, 0);
        z.set(1, 4);
        z.scan(1);
        check.same("all the same register", z.register(1), 0.0);
    }

    private static void withoutPowerNothingIsDone(Check check) {
        for (int kind = 4; kind < 10; kind++) {
            ScanForge x = Rig.withBlock(kind, 0, 1, 2, 5);
            x.set(0, 3);
            x.set(1, 4);
            x.set(2, 77);
            x.input(0, false);
            x.scan(2);
            check.same("kind " + kind, x.register(2), 77.0);
            check.same("runs", x.told(0, 3), 2);
        }
        ScanForge y = Rig.withBlock(Rig.DIV, 0, 1, 2, 0);
        y.input(0, false);
        check.same("no fault without power", y.scan(1), 1);
    }

    private static void regulatorFollowsItsFormula(Check check) {
        ScanForge x = Rig.withBlock(Rig.REGULATOR, 4, 5, 6, -2.5);
        double sum = 0;
        double before = 0;
        for (int i = 0; i < 12; i++) {
            double a = i * 1.7 - 4;
            double b = 9 - i * i * 0.3;
            x.set(4, a);
            x.set(5, b);
            x.scan(1);
            double e = b - a;
            sum = sum + e * 0.125;
            check.same("step " + i, x.register(6), -2.5 * (e + sum + (e - before) * 0.5));
            before = e;
        }
        check.same("nothing counted", x.told(0, 1), 0);
    }

    private static void regulatorRests(Check check) {
        ScanForge x = Rig.withBlock(Rig.REGULATOR, 0, 1, 2, 1);
        x.set(1, 8);
        x.scan(1);
        check.same("8 + 1 + 4", x.register(2), 13.0);
        x.scan(1);
        check.same("8 + 2 + 0", x.register(2), 10.0);
        x.input(0, false);
        x.scan(1);
        check.same("register stays", x.register(2), 10.0);
        x.input(0, true);
        x.scan(1);
        check.same("from the beginning", x.register(2), 13.0);
    }

    private static ScanForge calculating(int kind, double a, double b, double n) {
        ScanForge x = Rig.withBlock(kind, 0, 1, 2, n);
        x.set(0, a);
        x.set(1, b);
        x.set(2, 5);
        return x;
    }

    private static void sound(Check check, int kind, double a, double b, double n, double due) {
        ScanForge x = calculating(kind, a, b, n);
        String what = "kind " + kind + " of " + a + " and " + b + " with " + n;
        check.same(what + " faults", Rig.halts(x), false);
        check.same(what, x.register(2), due);
        check.same(what + " told faults", x.told(0, 4), 0);
    }

    private static void fault(Check check, int kind, double a, double b, double n) {
        ScanForge x = calculating(kind, a, b, n);
        String what = "kind " + kind + " of " + a + " and " + b + " with " + n;
        check.same(what + " halts", Rig.halts(x), true);
        check.same(what + " leaves the register", x.register(2), 5.0);
        check.same(what + " told faults", x.told(0, 4), 1);
        check.same(what + " resume", x.resume(), 0);
    }

    // "a FAULT ... a result beyond 1e12 in size": the last that is none
    private static void resultsMayReachTheLargest(Check check) {
        double[][] exact = {{4, 6e11, 4e11, 1e12}, {4, -6e11, -4e11, -1e12}, {5, 5e11, -5e11, 1e12},
            {5, -1e12, 0, -1e12}, {6, 1e6, 1e6, 1e12}, {6, -1e6, 1e6, -1e12}, {7, 1e12, 1, 1e12},
            {7, 1e12, -1, -1e12}, {7, 1e11, -0.1, -1e12}};
        for (double[] e : exact) {
            sound(check, (int) e[0], e[1], e[2], 0, e[3]);
        }
    }

    // and the first that is one
    private static void theFirstResultBeyondIsAFault(Check check) {
        double step = Math.ulp(1e12);
        fault(check, Rig.ADD, 1e12, step, 0);
        fault(check, Rig.ADD, -1e12, -step, 0);
        fault(check, Rig.SUB, 1e12, -step, 0);
        fault(check, Rig.SUB, -1e12, step, 0);
        fault(check, Rig.MUL, 1e12, Math.nextUp(1.0), 0);
        fault(check, Rig.MUL, Math.nextUp(1.0), -1e12, 0);
        fault(check, Rig.DIV, 1e12, Math.nextDown(1.0), 0);
        fault(check, Rig.DIV, 1e12, -Math.nextDown(1.0), 0);
    }

    private static void resultsFarBeyondAreFaults(Check check) {
        double[][] beyond = {{4, 1e12, 1e12}, {4, -1e12, -1e12}, {5, 1e12, -1e12}, {5, -1e12, 1e12}, {6, 1e12, 1e12},
            {6, -1e12, 1e12}, {7, 1e12, 1e-12}, {7, 1e12, -1e-300}, {7, 1, Double.MIN_VALUE},
            {7, -1, Double.MIN_VALUE}};
        for (double[] e : beyond) {
            fault(check, (int) e[0], e[1], e[2], 0);
        }
    }

    private static void aDifferenceTooSmallToBeSeenIsNoFault(Check check) {
        sound(check, Rig.ADD, 1e12, Math.ulp(1e12) / 2, 0, 1e12);
        sound(check, Rig.SUB, -1e12, Math.ulp(1e12) / 2, 0, -1e12);
    }

    // "DIV by 0 is a FAULT"
    private static void divisionByZero(Check check) {
        for (double a : new double[] {1, 0.0, -0.0, -1, 1e12}) {
            fault(check, Rig.DIV, a, 0.0, 0);
            fault(check, Rig.DIV, a, -0.0, 0);
        }
    }

    private static void divisionByTheLeast(Check check) {
        sound(check, Rig.DIV, 0, Double.MIN_VALUE, 0, 0);
        sound(check, Rig.DIV, 0, -1e-300, 0, 0);
        sound(check, Rig.DIV, Double.MIN_VALUE, Double.MIN_VALUE, 0, 1);
        sound(check, Rig.DIV, Double.MIN_VALUE, -Double.MIN_VALUE, 0, -1);
    }

    private static void eachRegisterCanBeUsed(Check check) {
        for (int i = 0; i < 8; i++) {
            ScanForge x = Rig.withBlock(Rig.SUB, i, (i + 1) % 8, (i + 2) % 8, 0);
            x.set(i, 7);
            x.set((i + 1) % 8, 4);
            x.scan(1);
            for (int j = 0; j < 8; j++) {
                double due = j == i ? 7 : j == (i + 1) % 8 ? 4 : j == (i + 2) % 8 ? 3 : 0;
                check.same("from " + i + " register " + j, x.register(j), due);
            }
        }
    }

    // "REGISTER c becomes that of a, but not below that of b or above n"
    private static void limit(Check check) {
        double[][] cases = {{3, 1, 5, 3}, {0, 1, 5, 1}, {6, 1, 5, 5}, {-1e12, -1e12, -1000, -1e12},
            {1e12, 0, 1000, 1000}, {1e12, -1e12, -1000, -1000}, {-7.5, -8.25, -7.75, -7.75}};
        for (double[] e : cases) {
            sound(check, Rig.LIMIT, e[0], e[1], e[2], e[3]);
        }
    }

    private static void limitAtItsEnds(Check check) {
        for (double[] e : new double[][] {{1, 6}, {-6, -1}, {-1000, 1000}, {-0.5, 0.5}}) {
            double low = e[0];
            double high = e[1];
            sound(check, Rig.LIMIT, low, low, high, low);
            sound(check, Rig.LIMIT, Math.nextDown(low), low, high, low);
            sound(check, Rig.LIMIT, Math.nextUp(low), low, high, Math.nextUp(low));
            sound(check, Rig.LIMIT, high, low, high, high);
            sound(check, Rig.LIMIT, Math.nextUp(high), low, high, high);
            sound(check, Rig.LIMIT, Math.nextDown(high), low, high, Math.nextDown(high));
        }
    }

    // "a FAULT if b is above n": the last b that is not above
    private static void limitWithEqualEnds(Check check) {
        for (double n : new double[] {-1000, -0.5, 0.0, 6, 1000}) {
            sound(check, Rig.LIMIT, 1e12, n, n, n);
            sound(check, Rig.LIMIT, n, n, n, n);
            sound(check, Rig.LIMIT, -1e12, n, n, n);
        }
        sound(check, Rig.LIMIT, 3, 0.0, -0.0, 0);
        sound(check, Rig.LIMIT, -3, -0.0, 0.0, 0);
    }

    // and the first that is
    private static void limitWhoseEndsAreCrossed(Check check) {
        for (double n : new double[] {-1000, -0.5, 0.0, 6, 1000}) {
            for (double a : new double[] {-1e12, n, 1e12}) {
                fault(check, Rig.LIMIT, a, Math.nextUp(n), n);
                fault(check, Rig.LIMIT, a, 1e12, n);
            }
        }
    }

    private static void limitHasNoFaultWithoutPower(Check check) {
        ScanForge x = calculating(Rig.LIMIT, 0, 6, 5);
        x.input(0, false);
        check.same("no fault", Rig.halts(x), false);
        check.same("register stays", x.register(2), 5.0);
    }

    /** A first RUN with e: SUM is due, and e - 0 is the change. */
    private static void firstSum(Check check, double e, double sum) {
        sound(check, Rig.REGULATOR, 0, e, 1, e + sum + e * 0.5);
    }

    // "its SUM becomes it + e * 0.125, not below -1000 or above 1000"
    private static void regulatorSumReaches1000(Check check) {
        firstSum(check, 7992, 999);
        firstSum(check, 7999.5, 999.9375);
        firstSum(check, 8000, 1000);
        firstSum(check, -7992, -999);
        firstSum(check, -7999.5, -999.9375);
        firstSum(check, -8000, -1000);
    }

    private static void regulatorSumIsHeldAt1000(Check check) {
        firstSum(check, 8000.5, 1000);
        firstSum(check, 1e9, 1000);
        firstSum(check, -8000.5, -1000);
        firstSum(check, -1e9, -1000);
        for (int sign = -1; sign < 2; sign += 2) {
            ScanForge x = calculating(Rig.REGULATOR, 0, sign * 8000.0, 1);
            x.scan(4);
            check.same("held scan after scan", x.register(2), sign * 9000.0);
        }
    }

    private static void regulatorSumComesBackFrom1000(Check check) {
        for (int sign = -1; sign < 2; sign += 2) {
            ScanForge x = calculating(Rig.REGULATOR, 0, sign * 8000.0, 1);
            x.scan(3);
            x.set(1, sign * -8.0);
            x.scan(1);
            check.same("one step back", x.register(2), sign * (-8 + 999 - 4004.0));
        }
    }

    // "without POWER the SUM and the e of before become 0"
    private static void regulatorForgetsWithoutPower(Check check) {
        ScanForge x = calculating(Rig.REGULATOR, 0, 8, 1);
        x.scan(5);
        x.input(0, false);
        x.set(1, 16);
        x.scan(1);
        x.input(0, true);
        x.scan(1);
        check.same("16 + 2 + 8", x.register(2), 26.0);
        ScanForge y = calculating(Rig.REGULATOR, 0, 8, 1);
        y.coil(0, 1, Rig.BLOCK, 0);
        y.scan(3);
        check.same("a run without power in each scan", y.register(2), 13.0);
    }

    // "a FAULT if that is beyond 1e12 in size": e is such that e + 1000 + e * 0.5 is just 1e12
    private static void regulatorMayReachTheLargest(Check check) {
        double e = 666666666000.0;
        sound(check, Rig.REGULATOR, 0, e, 1, 1e12);
        sound(check, Rig.REGULATOR, 0, e, -1, -1e12);
        sound(check, Rig.REGULATOR, e, 0, 1, -1e12);
        sound(check, Rig.REGULATOR, e, 0, -1, 1e12);
    }

    private static void regulatorBeyondIsAFault(Check check) {
        double e = Math.nextUp(666666666000.0);
        fault(check, Rig.REGULATOR, 0, e, 1);
        fault(check, Rig.REGULATOR, 0, e, -1);
        fault(check, Rig.REGULATOR, e, 0, 1);
        fault(check, Rig.REGULATOR, e, 0, -1);
        fault(check, Rig.REGULATOR, -1e12, 1e12, 1000);
        fault(check, Rig.REGULATOR, 1e12, -1e12, 1000);
    }

    private static void regulatorOfZero(Check check) {
        sound(check, Rig.REGULATOR, -1e12, 1e12, 0, 0);
        sound(check, Rig.REGULATOR, 3, 3, 1000, 0);
    }

    // "(The SUM and e of a REGULATOR are as they became.)"
    private static void regulatorFaultKeepsSumAndError(Check check) {
        ScanForge x = calculating(Rig.REGULATOR, 0, 1e9, 1000);
        check.same("fault", Rig.halts(x), true);
        check.same("register stays", x.register(2), 5.0);
        x.resume();
        x.set(1, 0);
        x.scan(1);
        check.same("sum 1000, e before 1e9", x.register(2), 1000 * (0 + 1000 + (0 - 1e9) * 0.5));
    }

    private static void regulatorFaultKeepsSumAndErrorWhenGuarded(Check check) {
        ScanForge x = calculating(Rig.REGULATOR, 1e9, 0, -1000);
        x.guard(0, true);
        x.scan(1);
        check.same("guard", x.bit(23), true);
        check.same("register stays", x.register(2), 5.0);
        x.set(0, 0);
        x.scan(1);
        check.same("sum -1000, e before -1e9", x.register(2), -1000 * (0 - 1000 + (0 + 1e9) * 0.5));
    }
}
