/**
 * A second, slow reading of the document, to compare long runs of calls with. A call answers its number,
 * or one of the marks below for an exception. What would be is tried on a copy of the whole model.
 */
final class Model {
    static final long INDEX = Long.MIN_VALUE;
    static final long ARGUMENT = Long.MIN_VALUE + 1;
    static final long STATE = Long.MIN_VALUE + 2;

    /** The names of the calls, and how many arguments each takes. */
    static final String[] CALLS = {"make", "pose", "take", "blink", "dress", "bring", "setMoths", "mend", "joint",
        "doll", "count", "costs", "often", "needs", "lacks", "worst", "foresee", "pass", "mean", "digest"};

    // A doll's row: angles 0..5, wears 6..11, lacquers 12..17, then the eight things that doll() tells.
    private static final int TOLD = 18;
    private long[][] dolls = new long[0][];
    private long[][] poses = new long[0][];
    private long[] stock = {0, 0, 0, 0, 0};
    private long day = 0;
    private long moths = 1;

    private Model copy() {
        Model m = new Model();
        m.dolls = new long[dolls.length][];
        for (int i = 0; i < dolls.length; i++) {
            m.dolls[i] = dolls[i].clone();
        }
        m.poses = poses.clone();
        m.stock = stock.clone();
        m.day = day;
        m.moths = moths;
        return m;
    }

    private static boolean in(long x, long least, long most) {
        return least <= x && x <= most;
    }

    private boolean isDoll(long x) {
        return in(x, 0, dolls.length - 1);
    }

    private boolean isPose(long x) {
        return in(x, 0, poses.length - 1);
    }

    long answer(String call, int[] a) {
        switch (call) {
            case "make": return make();
            case "pose": return pose(a);
            case "take": return take(a[0], a[1]);
            case "blink": return blink(a[0], a[1]);
            case "dress": return dress(a[0], a[1], a[2]);
            case "bring": return bring(a[0], a[1]);
            case "setMoths": return setMoths(a[0]);
            case "mend": return mend(a[0], a[1], a[2]);
            case "joint": return joint(a[0], a[1], a[2]);
            case "doll": return doll(a[0], a[1]);
            case "count": return count(a[0]);
            case "costs": return costs(a[0], a[1]);
            case "often": return often(a[0], a[1]);
            case "needs": return needs(a[0], a[1]);
            case "lacks": return lacks(a[0]);
            case "worst": return worst();
            case "foresee": return foresee(a[0], a[1]);
            case "pass": return pass(a[0]);
            case "mean": return Double.doubleToLongBits(mean());
            case "digest": return digest();
            default: throw new AssertionError(call);
        }
    }

    private static long[][] with(long[][] rows, long[] row) {
        long[][] more = java.util.Arrays.copyOf(rows, rows.length + 1);
        more[rows.length] = row;
        return more;
    }

    private long make() {
        if (dolls.length == 8) {
            return STATE;
        }
        long[] row = new long[TOLD + 8];
        row[TOLD] = 1;
        row[TOLD + 1] = 1;
        dolls = with(dolls, row);
        return dolls.length - 1;
    }

    private long pose(int[] a) {
        long[] row = new long[6];
        for (int i = 0; i < 6; i++) {
            if (!in(a[i], 0, 90)) {
                return ARGUMENT;
            }
            row[i] = a[i];
        }
        if (poses.length == 8) {
            return STATE;
        }
        poses = with(poses, row);
        return poses.length - 1;
    }

    private boolean can(int doll, long[] goal) {
        boolean can = true;
        for (int j = 0; j < 6; j++) {
            can &= dolls[doll][j] == goal[j] || dolls[doll][6 + j] != 100;
        }
        return can;
    }

    private void turn(int doll, int j, long angle) {
        long[] row = dolls[doll];
        long by = row[j] < angle ? angle - row[j] : row[j] - angle;
        if (by == 0) {
            return;
        }
        row[j] = angle;
        if (row[12 + j] > 0) {
            row[12 + j]--;
            row[6 + j] += by / 20;
        } else {
            row[6 + j] += by / 10 + 1;
        }
        if (row[6 + j] > 100) {
            row[6 + j] = 100;
        }
    }

    private long take(int doll, int pose) {
        if (!isDoll(doll) || !isPose(pose)) {
            return INDEX;
        }
        if (!can(doll, poses[pose])) {
            return STATE;
        }
        long broken = count(4);
        for (int j = 0; j < 6; j++) {
            turn(doll, j, poses[pose][j]);
        }
        dolls[doll][TOLD + 7]++;
        return count(4) - broken;
    }

    private long blink(int doll, int eye) {
        if (!isDoll(doll) || !in(eye, 0, 1)) {
            return INDEX;
        }
        if (dolls[doll][TOLD + 2 + eye] == 9) {
            return STATE;
        }
        dolls[doll][TOLD + eye] ^= 1;
        return dolls[doll][TOLD + eye];
    }

    private long dress(int doll, int weight, int pins) {
        if (!isDoll(doll)) {
            return INDEX;
        }
        if (!in(weight, 1, 9) || !in(pins, 0, 12)) {
            return ARGUMENT;
        }
        if (pins < weight || stock[2] < pins) {
            return STATE;
        }
        stock[2] -= pins;
        stock[2] += dolls[doll][TOLD + 6];
        if (stock[2] > 99) {
            stock[2] = 99;
        }
        dolls[doll][TOLD + 5] = weight;
        dolls[doll][TOLD + 6] = pins;
        return stock[2];
    }

    private long bring(int kind, int many) {
        if (!in(kind, 0, 4) || !in(many, 1, 99)) {
            return ARGUMENT;
        }
        stock[kind] += many;
        if (stock[kind] > 99) {
            stock[kind] = 99;
        }
        return stock[kind];
    }

    private long setMoths(int m) {
        if (!in(m, 0, 3)) {
            return ARGUMENT;
        }
        long before = moths;
        moths = m;
        return before;
    }

    private long mend(int doll, int kind, int place) {
        if (!isDoll(doll) || !in(place, 0, 5)) {
            return INDEX;
        }
        if (!in(kind, 0, 4)) {
            return ARGUMENT;
        }
        long[] row = dolls[doll];
        if (stock[kind] == 0 || kind == 2 && (row[TOLD + 5] == 0 || row[TOLD + 6] == 12)) {
            return STATE;
        }
        if (kind == 0) {
            row[6 + place] = 0;
            row[12 + place] = 0;
        } else if (kind == 1) {
            row[12 + place] = 20;
        } else if (kind == 2) {
            row[TOLD + 6]++;
        } else if (kind == 3) {
            row[TOLD + 2] = 0;
            row[TOLD + 3] = 0;
        } else {
            row[TOLD + 4] = 0;
        }
        return --stock[kind];
    }

    private long joint(int doll, int joint, int what) {
        if (!isDoll(doll) || !in(joint, 0, 5) || !in(what, 0, 3)) {
            return INDEX;
        }
        return what == 3 ? dolls[doll][6 + joint] / 100 : dolls[doll][what * 6 + joint];
    }

    private long doll(int doll, int what) {
        return isDoll(doll) && in(what, 0, 7) ? dolls[doll][TOLD + what] : INDEX;
    }

    private long count(int what) {
        if (!in(what, 0, 12)) {
            return INDEX;
        }
        if (what >= 8) {
            return stock[what - 8];
        }
        long[] told = {day, dolls.length, poses.length, moths, 0, 0, 0, 0};
        for (long[] row : dolls) {
            for (int j = 0; j < 6; j++) {
                told[4] += row[6 + j] == 100 ? 1 : 0;
            }
            told[5] += row[TOLD + 4] != -1 ? 1 : 0;
            told[6] += row[TOLD + 5] != 0 ? 1 : 0;
            told[7] += (row[TOLD + 2] == 9 ? 1 : 0) + (row[TOLD + 3] == 9 ? 1 : 0);
        }
        return told[what];
    }

    private long wear() {
        long sum = 0;
        for (long[] row : dolls) {
            for (int j = 0; j < 6; j++) {
                sum += row[6 + j];
            }
        }
        return sum;
    }

    private long costs(int doll, int pose) {
        Model m = copy();
        long taken = m.take(doll, pose);
        return taken == INDEX ? INDEX : taken == STATE ? -1 : m.wear() - wear();
    }

    private long often(int doll, int pose) {
        if (!isDoll(doll) || !isPose(pose)) {
            return INDEX;
        }
        Model m = copy();
        for (int times = 0; times < 50; times++) {
            if (m.take(doll, pose) < 0) {
                return times;
            }
            for (int j = 0; j < 6; j++) {
                if (m.dolls[doll][6 + j] != 100) {
                    m.turn(doll, j, 0);
                }
            }
        }
        return 50;
    }

    private long needs(int doll, int kind) {
        if (!isDoll(doll)) {
            return INDEX;
        }
        if (!in(kind, 0, 4)) {
            return ARGUMENT;
        }
        long[] row = dolls[doll];
        long[] need = new long[5];
        for (int j = 0; j < 6; j++) {
            need[0] += row[6 + j] >= 50 ? 1 : 0;
            need[1] += row[12 + j] == 0 ? 1 : 0;
        }
        need[2] = row[TOLD + 5] > 0 ? 12 - row[TOLD + 6] : 0;
        need[3] = Math.max(row[TOLD + 2], row[TOLD + 3]) >= 5 ? 1 : 0;
        need[4] = in(row[TOLD + 4], 0, 4) ? 0 : 1;
        return need[kind];
    }

    private long lacks(int kind) {
        if (!in(kind, 0, 4)) {
            return ARGUMENT;
        }
        long more = -stock[kind];
        for (int i = 0; i < dolls.length; i++) {
            more += needs(i, kind);
        }
        return more < 0 ? 0 : more;
    }

    private long worst() {
        long best = -1;
        long most = 0;
        for (int i = 0; i < dolls.length; i++) {
            long sum = needs(i, 0) + needs(i, 1) + needs(i, 2) + needs(i, 3) + needs(i, 4);
            if (sum > most) {
                most = sum;
                best = i;
            }
        }
        return best;
    }

    private long foresee(int days, int what) {
        if (!in(days, 1, 60)) {
            return ARGUMENT;
        }
        if (!in(what, 4, 7)) {
            return INDEX;
        }
        Model m = copy();
        m.pass(days);
        return m.count(what);
    }

    private long pass(int days) {
        if (!in(days, 1, 60)) {
            return ARGUMENT;
        }
        long lost = 0;
        for (int i = 0; i < days; i++) {
            long before = count(5) + count(6);
            for (long[] row : dolls) {
                oneDay(row);
            }
            day++;
            lost += before - count(5) - count(6);
        }
        return lost;
    }

    private void oneDay(long[] row) {
        if (row[TOLD + 4] >= 0) {
            row[TOLD + 4] += moths;
            if (row[TOLD + 4] >= 10) {
                row[TOLD + 4] = -1;
            }
        }
        if (row[TOLD + 5] > 0 && row[11] >= 50) {
            row[TOLD + 6]--;
            if (row[TOLD + 6] < row[TOLD + 5]) {
                row[TOLD + 5] = 0;
                row[TOLD + 6] = 0;
            }
        }
        for (int j = 12; j < 18; j++) {
            if (day % 3 == 0 && row[j] > 0) {
                row[j]--;
            }
        }
        for (int eye = 0; eye < 2; eye++) {
            if (row[TOLD + eye] == 1 && row[TOLD + 2 + eye] < 9) {
                row[TOLD + 2 + eye]++;
            }
        }
    }

    private double mean() {
        return dolls.length == 0 ? 0.0 : (double) wear() / (6 * dolls.length);
    }

    private long digest() {
        long d = 1063;
        for (int what = 0; what <= 12; what++) {
            d = d * 31 + count(what);
        }
        for (long[] row : poses) {
            for (long angle : row) {
                d = d * 31 + angle;
            }
        }
        for (int i = 0; i < dolls.length; i++) {
            for (int what = 0; what <= 7; what++) {
                d = d * 31 + doll(i, what);
            }
            for (int k = 0; k < 24; k++) {
                d = d * 31 + joint(i, k / 4, k % 4);
            }
        }
        return d;
    }
}
