import java.util.Arrays;

/** The document's Terms told a second time, place by place, for AnyCallsTest to compare with. */
final class Model {
    final boolean[] bits = new boolean[24];
    final double[] registers = new double[8];
    final int[][][] cellKind = new int[5][3][4];
    final int[][][] cellBit = new int[5][3][4];
    final boolean[][][] seenOn = new boolean[5][3][4];
    final boolean[][][] link = new boolean[5][2][4];
    final boolean[][][] power = new boolean[5][3][5];
    final int[][] coilKind = new int[5][3];
    final int[][] coilNumber = new int[5][3];
    final int[][] blockNumbers = new int[8][4];
    final double[] blockN = new double[8];
    final boolean[] guarded = new boolean[8];
    final int[] counted = new int[8];
    final boolean[] ranWithPower = new boolean[8];
    final double[] sum = new double[8];
    final double[] e = new double[8];
    final int[] runs = new int[8];
    final int[] blockFaults = new int[8];
    int scans = 0;
    int faults = 0;
    int halter = -1;

    void newBlock(int k, int kind, int a, int b, int c, double n) {
        blockNumbers[k] = new int[] {kind, a, b, c};
        blockN[k] = n;
        counted[k] = 0;
        ranWithPower[k] = false;
        sum[k] = 0;
        e[k] = 0;
        runs[k] = 0;
        blockFaults[k] = 0;
    }

    /** Answers whether it was halted by a fault. */
    boolean scan(int n) {
        for (int i = 0; i < n; i++) {
            scans++;
            for (int g = 0; g < 5; g++) {
                lookAt(g);
                for (int row = 0; row < 3; row++) {
                    if (!coil(coilKind[g][row], coilNumber[g][row], power[g][row][4])) {
                        return true;
                    }
                }
            }
        }
        return false;
    }

    private void lookAt(int g) {
        boolean[] now = {true, true, true};
        for (int row = 0; row < 3; row++) {
            power[g][row][0] = true;
        }
        for (int column = 0; column < 4; column++) {
            for (int row = 0; row < 3; row++) {
                boolean conducts = conducts(g, row, column);
                now[row] = now[row] && conducts;
            }
            boolean upper = link[g][0][column];
            boolean lower = link[g][1][column];
            if (upper && lower) {
                Arrays.fill(now, now[0] || now[1] || now[2]);
            } else if (upper) {
                Arrays.fill(now, 0, 2, now[0] || now[1]);
            } else if (lower) {
                Arrays.fill(now, 1, 3, now[1] || now[2]);
            }
            for (int row = 0; row < 3; row++) {
                power[g][row][column + 1] = now[row];
            }
        }
    }

    private boolean conducts(int g, int row, int column) {
        int kind = cellKind[g][row][column];
        if (kind < 2) {
            return kind == 1;
        }
        boolean on = bits[cellBit[g][row][column]];
        boolean before = seenOn[g][row][column];
        seenOn[g][row][column] = on;
        return switch (kind) {
            case 2 -> on;
            case 3 -> !on;
            case 4 -> on && !before;
            default -> before && !on;
        };
    }

    /** Answers whether it goes on. */
    private boolean coil(int kind, int n, boolean powered) {
        if (kind == 1) {
            bits[n] = powered;
        } else if (kind == 2 && powered) {
            bits[n] = true;
        } else if (kind == 3 && powered) {
            bits[n] = false;
        } else if (kind == 4) {
            runs[n]++;
            if (!run(n, powered)) {
                return fault(n);
            }
        }
        return true;
    }

    private boolean fault(int k) {
        faults++;
        blockFaults[k]++;
        if (guarded[k]) {
            bits[23] = true;
            return true;
        }
        Arrays.fill(bits, 8, 16, false);
        halter = k;
        return false;
    }

    /** Answers false for a fault. */
    private boolean run(int k, boolean powered) {
        int kind = blockNumbers[k][0];
        int c = blockNumbers[k][3];
        if (kind == 1) {
            counted[k] = powered ? Math.min(counted[k] + 1, (int) blockN[k]) : 0;
            bits[c] = counted[k] == (int) blockN[k];
        } else if (kind == 2) {
            int step = powered && !ranWithPower[k] ? 1 : 0;
            counted[k] = bits[22] ? 0 : Math.min(counted[k] + step, (int) blockN[k]);
            ranWithPower[k] = powered;
            bits[c] = counted[k] == (int) blockN[k];
        } else if (kind == 9 && !powered) {
            sum[k] = 0;
            e[k] = 0;
        } else if (kind >= 3 && powered) {
            double a = registers[blockNumbers[k][1]];
            double b = registers[blockNumbers[k][2]];
            if (kind == 3) {
                bits[c] = a < b;
                return true;
            }
            return write(c, result(k, kind, a, b));
        }
        return true;
    }

    private double result(int k, int kind, double a, double b) {
        double n = blockN[k];
        switch (kind) {
            case 4:
                return a + b;
            case 5:
                return a - b;
            case 6:
                return a * b;
            case 7:
                return b == 0 ? Double.NaN : a / b;
            case 8:
                return b > n ? Double.NaN : Math.min(n, Math.max(a, b));
            default:
                double before = e[k];
                e[k] = b - a;
                sum[k] = Math.max(-1000, Math.min(1000, sum[k] + e[k] * 0.125));
                return n * (e[k] + sum[k] + (e[k] - before) * 0.5);
        }
    }

    private boolean write(int c, double value) {
        if (!(Math.abs(value) <= 1e12)) {
            return false;
        }
        registers[c] = value;
        return true;
    }
}
