import java.util.Arrays;
import java.util.Set;
import java.util.TreeSet;

/** All that a citadel tells of itself: at most 270 calls, with 8 dolls. */
final class Told {
    private static final int COUNTS = 13;
    private static final int OF_A_DOLL = 8;
    private static final int OF_A_JOINT = 4;
    private static final int EACH_DOLL = OF_A_DOLL + 6 * OF_A_JOINT;

    private Told() {
    }

    /** What count() tells, what doll() and joint() tell of each doll, and the checksum, for the poses. */
    static long[] of(DollCitadel x) {
        int dolls = x.count(1);
        long[] row = new long[COUNTS + dolls * EACH_DOLL + 1];
        for (int what = 0; what < COUNTS; what++) {
            row[count(what)] = x.count(what);
        }
        for (int doll = 0; doll < dolls; doll++) {
            for (int what = 0; what < OF_A_DOLL; what++) {
                row[doll(doll, what)] = x.doll(doll, what);
            }
            for (int k = 0; k < 6 * OF_A_JOINT; k++) {
                row[joint(doll, k / OF_A_JOINT, k % OF_A_JOINT)] = x.joint(doll, k / OF_A_JOINT, k % OF_A_JOINT);
            }
        }
        row[row.length - 1] = x.digest();
        return row;
    }

    /** Where the row has what count() tells. */
    static int count(int what) {
        return what;
    }

    static int doll(int doll, int what) {
        return COUNTS + doll * EACH_DOLL + what;
    }

    static int joint(int doll, int joint, int what) {
        return COUNTS + doll * EACH_DOLL + OF_A_DOLL + joint * OF_A_JOINT + what;
    }

    /** The call must change what stands at these places of the row, and nothing else, but for the checksum. */
    static void dueChanged(String call, DollCitadel x, Check.Use use, int... places) {
        long[] before = of(x);
        use.on(x);
        long[] behind = of(x);
        Set<Integer> changed = new TreeSet<>();
        for (int i = 0; i < before.length - 1; i++) {
            if (behind.length != before.length || behind[i] != before[i]) {
                changed.add(i);
            }
        }
        Set<Integer> due = new TreeSet<>();
        Arrays.stream(places).forEach(due::add);
        Check.dueTrue(call + " changed the places " + changed + ", due is " + due, changed.equals(due));
    }
}
