/** Long runs of mixed calls, ordinary and wrong, compared call by call with the model. */
public final class LongRunsTest {
    private static final int RUNS = 1500;
    private static final int CALLS = 255;
    private static final int LAST_CALL = 512;
    private static final int[] FAR = {Integer.MIN_VALUE, Integer.MIN_VALUE + 1, -100, -2, -1, 13, 60, 61, 91, 99, 100,
        1000, Integer.MAX_VALUE - 1, Integer.MAX_VALUE};

    /** How often each call is made, in the order of Model.CALLS. */
    private static final int[] WEIGHTS = {6, 6, 40, 8, 8, 10, 3, 14, 4, 4, 4, 6, 6, 4, 4, 4, 6, 8, 2, 1};

    private final DollCitadel citadel = new DollCitadel();
    private final Model model = new Model();
    private long seed;

    private LongRunsTest(long seed) {
        this.seed = seed;
    }

    public static void main(String[] args) {
        Check.runAll(LongRunsTest.class);
    }

    static void promises1To21InLongRuns() {
        for (int run = 1; run <= RUNS; run++) {
            if (!new LongRunsTest(run * 7919L).agrees(run)) {
                return;
            }
        }
    }

    // "An object is used for at most 512 calls": the last of them is the checksum.
    static void promises1To21UpToThe512thCall() {
        for (int run = 1; run <= RUNS; run++) {
            if (!new LongRunsTest(run * 104729L).agreesUpToTheLastCall(run)) {
                return;
            }
        }
    }

    static void promise19_511TimesTheMostDays() {
        DollCitadel x = new DollCitadel();
        for (int i = 0; i < 511; i++) {
            x.pass(60);
        }
        Check.due("count(0)", x.count(0), 511 * 60);
    }

    private boolean agreesUpToTheLastCall(int run) {
        for (int i = 0; i < LAST_CALL - 1; i++) {
            String call = nextCall(i);
            int[] a = arguments(call);
            long want = model.answer(call, a);
            long got = answer(call, a);
            if (got != want) {
                Check.wrong("long run " + run + ", call " + i + ": " + call + " of " + java.util.Arrays.toString(a)
                        + " answered " + got + ", due is " + want);
                return false;
            }
        }
        long want = model.answer("digest", new int[6]);
        Check.due("long run " + run + ", the last call: digest()", citadel.digest(), want);
        return true;
    }

    private boolean agrees(int run) {
        for (int i = 0; i < CALLS; i++) {
            String call = nextCall(i);
            int[] a = arguments(call);
            long want = model.answer(call, a);
            long got = answer(call, a);
            long wantDigest = model.answer("digest", a);
            long gotDigest = citadel.digest();
            if (got != want || gotDigest != wantDigest) {
                Check.wrong("run " + run + ", call " + i + ": " + call + " of " + java.util.Arrays.toString(a)
                        + " answered " + got + ", due is " + want + "; digest " + gotDigest + ", due is " + wantDigest);
                return false;
            }
        }
        return true;
    }

    /** A number from 0 to below, out of a fixed sequence. */
    private int next(int below) {
        seed = seed * 6364136223846793005L + 1442695040888963407L;
        return (int) ((seed >>> 33) % below);
    }

    private String nextCall(int made) {
        if (made < 4) {
            return made % 2 == 0 ? "make" : "pose";
        }
        int sum = 0;
        for (int weight : WEIGHTS) {
            sum += weight;
        }
        int at = next(sum);
        int call = 0;
        while (at >= WEIGHTS[call]) {
            at -= WEIGHTS[call];
            call++;
        }
        return Model.CALLS[call];
    }

    private int[] arguments(String call) {
        int[] a = new int[6];
        for (int i = 0; i < 6; i++) {
            a[i] = ordinary(call, i);
        }
        if (next(12) == 0) {
            a[next(6)] = FAR[next(FAR.length)];
        }
        return a;
    }

    private int ordinary(String call, int at) {
        switch (call) {
            case "pose": return next(3) == 0 ? 0 : next(3) == 0 ? 90 : next(91);
            case "take":
            case "costs":
            case "often": return next(next(4) == 0 ? 9 : 2);
            case "blink": return at == 0 ? next(4) : next(2);
            case "dress": return at == 0 ? next(3) : at == 1 ? next(10) : next(13);
            case "bring": return at == 0 ? next(5) : 1 + next(next(4) == 0 ? 99 : 9);
            case "setMoths": return next(4);
            case "mend": return at == 0 ? next(3) : at == 1 ? next(5) : next(6);
            case "joint": return at == 0 ? next(4) : at == 1 ? next(6) : next(4);
            case "doll": return at == 0 ? next(4) : next(8);
            case "count": return next(13);
            case "needs": return at == 0 ? next(4) : next(5);
            case "lacks": return next(5);
            case "foresee": return at == 0 ? 1 + next(next(2) == 0 ? 60 : 12) : 4 + next(4);
            case "pass": return 1 + next(next(10) == 0 ? 60 : 3);
            default: return 0;
        }
    }

    private long answer(String call, int[] a) {
        try {
            return called(call, a);
        } catch (RuntimeException e) {
            // Only these classes themselves: what the machine throws is of a class below them.
            if (e.getClass() == IndexOutOfBoundsException.class) {
                return Model.INDEX;
            }
            if (e.getClass() == IllegalArgumentException.class) {
                return Model.ARGUMENT;
            }
            if (e.getClass() == IllegalStateException.class) {
                return Model.STATE;
            }
            throw e;
        }
    }

    private long called(String call, int[] a) {
        switch (call) {
            case "make": return citadel.make();
            case "pose": return citadel.pose(a[0], a[1], a[2], a[3], a[4], a[5]);
            case "take": return citadel.take(a[0], a[1]);
            case "blink": return citadel.blink(a[0], a[1]) ? 1 : 0;
            case "dress": return citadel.dress(a[0], a[1], a[2]);
            case "bring": return citadel.bring(a[0], a[1]);
            case "setMoths": return citadel.setMoths(a[0]);
            case "mend": return citadel.mend(a[0], a[1], a[2]);
            case "joint": return citadel.joint(a[0], a[1], a[2]);
            case "doll": return citadel.doll(a[0], a[1]);
            case "count": return citadel.count(a[0]);
            case "costs": return citadel.costs(a[0], a[1]);
            case "often": return citadel.often(a[0], a[1]);
            case "needs": return citadel.needs(a[0], a[1]);
            case "lacks": return citadel.lacks(a[0]);
            case "worst": return citadel.worst();
            case "foresee": return citadel.foresee(a[0], a[1]);
            case "pass": return citadel.pass(a[0]);
            case "mean": return Double.doubleToLongBits(citadel.mean());
            case "digest": return citadel.digest();
            default: throw new AssertionError(call);
        }
    }
}
