/**
 * Each refused call: which exception it throws, which one where several apply, and that nothing is changed by it.
 * The promises that throw nothing, and the calls that only ask, change nothing either.
 */
public final class RefusalsTest {
    private static final Class<IndexOutOfBoundsException> INDEX = IndexOutOfBoundsException.class;
    private static final Class<IllegalArgumentException> ARGUMENT = IllegalArgumentException.class;
    private static final Class<IllegalStateException> STATE = IllegalStateException.class;

    private static final int MIN = Integer.MIN_VALUE;
    private static final int MAX = Integer.MAX_VALUE;

    /** What is no doll, and no pose, of furnished(), which has 3 of each. */
    private static final int[] NO_DOLL = {MIN, -1, 3, 7, 8, MAX};
    private static final int[] NO_POSE = {MIN, -1, 3, 7, 8, MAX};
    private static final int[] NO_JOINT = {MIN, -1, 6, 7, MAX};
    private static final int[] NO_KIND = {MIN, -1, 5, 6, MAX};
    private static final int[] NO_DAYS = {MIN, -1, 0, 61, 62, MAX};

    public static void main(String[] args) {
        Check.runAll(RefusalsTest.class);
    }

    private static void refused(Class<? extends RuntimeException> want, String call, Check.Use use) {
        Check.dueRefused(want, call, Citadels::furnished, use);
    }

    private static void refusedWhenFull(Class<? extends RuntimeException> want, String call, Check.Use use) {
        Check.dueRefused(want, call, Citadels::full, use);
    }

    private static void refusedWhenEmpty(Class<? extends RuntimeException> want, String call, Check.Use use) {
        Check.dueRefused(want, call, DollCitadel::new, use);
    }

    // ---- make

    static void promise02_with8Dolls() {
        refusedWhenFull(STATE, "make()", x -> x.make());
    }

    // ---- pose

    static void promise03_anAngle() {
        for (int angle : new int[] {MIN, -90, -1, 91, 100, MAX}) {
            for (int joint : Citadels.ALL_JOINTS) {
                refused(ARGUMENT, "a pose with " + angle + " at " + joint, x -> Citadels.poseOf(x, angle, joint));
            }
        }
    }

    static void promise03_with8Poses() {
        refusedWhenFull(STATE, "pose", x -> x.pose(0, 1, 2, 3, 4, 5));
    }

    static void promise03_anAngleBefore8Poses() {
        for (int joint : Citadels.ALL_JOINTS) {
            refusedWhenFull(ARGUMENT, "a pose with 91", x -> Citadels.poseOf(x, 91, joint));
            refusedWhenFull(ARGUMENT, "a pose with -1", x -> Citadels.poseOf(x, -1, joint));
        }
    }

    // ---- take

    static void promise04_noSuchDoll() {
        for (int doll : NO_DOLL) {
            refused(INDEX, "take(" + doll + ", 1)", x -> x.take(doll, 1));
        }
        refusedWhenFull(INDEX, "take(8, 0)", x -> x.take(8, 0));
    }

    static void promise04_noSuchPose() {
        for (int pose : NO_POSE) {
            refused(INDEX, "take(2, " + pose + ")", x -> x.take(2, pose));
        }
        refusedWhenFull(INDEX, "take(0, 8)", x -> x.take(0, 8));
    }

    static void promise04_nothingThere() {
        refusedWhenEmpty(INDEX, "take(0, 0)", x -> x.take(0, 0));
        Check.dueRefused(INDEX, "take(0, 0) without poses", () -> Citadels.withDolls(8), x -> x.take(0, 0));
    }

    static void promise04_itCannot() {
        refused(STATE, "take(0, 1)", x -> x.take(0, 1));
        refused(STATE, "take(0, 2)", x -> x.take(0, 2));
        refusedWhenFull(STATE, "take(7, 7)", x -> x.take(7, 7));
    }

    static void promise04_itCannotAndNoOtherJointTurns() {
        for (int joint : Citadels.ALL_JOINTS) {
            Check.dueRefused(STATE, "take with " + joint + " broken", () -> brokenJoint(joint), x -> x.take(0, 4));
        }
    }

    /** The doll 0 has this broken joint, and the pose 4 moves all. */
    private static DollCitadel brokenJoint(int joint) {
        DollCitadel x = Citadels.worn(100, joint);
        Citadels.poseOf(x, 90, Citadels.ALL_JOINTS);
        return x;
    }

    static void promise04_noSuchPoseBeforeItCannot() {
        for (int pose : NO_POSE) {
            refused(INDEX, "take(0, " + pose + ")", x -> x.take(0, pose));
        }
    }

    // ---- blink

    static void promise05_noSuchDoll() {
        for (int doll : NO_DOLL) {
            refused(INDEX, "blink(" + doll + ", 0)", x -> x.blink(doll, 0));
        }
        refusedWhenEmpty(INDEX, "blink(0, 0)", x -> x.blink(0, 0));
        refusedWhenFull(INDEX, "blink(8, 0)", x -> x.blink(8, 0));
    }

    static void promise05_noSuchEye() {
        for (int eye : new int[] {MIN, -1, 2, 3, MAX}) {
            refused(INDEX, "blink(1, " + eye + ")", x -> x.blink(1, eye));
        }
    }

    static void promise05_stuck() {
        refused(STATE, "blink(0, 0)", x -> x.blink(0, 0));
        refused(STATE, "blink(0, 1)", x -> x.blink(0, 1));
        refusedWhenFull(STATE, "blink(7, 1)", x -> x.blink(7, 1));
    }

    static void promise05_noSuchEyeBeforeStuck() {
        for (int eye : new int[] {MIN, -1, 2, 3, MAX}) {
            refused(INDEX, "blink(0, " + eye + ")", x -> x.blink(0, eye));
        }
    }

    // ---- dress

    static void promise06_noSuchDoll() {
        for (int doll : NO_DOLL) {
            refused(INDEX, "dress(" + doll + ", 1, 1)", x -> x.dress(doll, 1, 1));
        }
        refusedWhenEmpty(INDEX, "dress(0, 1, 1)", x -> x.dress(0, 1, 1));
        refusedWhenFull(INDEX, "dress(8, 1, 1)", x -> x.dress(8, 1, 1));
    }

    static void promise06_aWeight() {
        for (int weight : new int[] {MIN, -1, 0, 10, 11, MAX}) {
            refusedWhenFull(ARGUMENT, "dress(0, " + weight + ", 12)", x -> x.dress(0, weight, 12));
        }
    }

    static void promise06_aNumberOfPins() {
        for (int pins : new int[] {MIN, -1, 13, 14, MAX}) {
            refusedWhenFull(ARGUMENT, "dress(0, 1, " + pins + ")", x -> x.dress(0, 1, pins));
        }
    }

    static void promise06_fewerPinsThanTheWeight() {
        for (int weight = 1; weight <= 9; weight++) {
            int asked = weight;
            refused(STATE, "dress(2, " + weight + ", one less)", x -> x.dress(2, asked, asked - 1));
            refused(STATE, "dress(2, " + weight + ", 0)", x -> x.dress(2, asked, 0));
        }
    }

    static void promise06_notSoManyInStore() {
        refused(STATE, "dress(2, 1, 11) with 10", x -> x.dress(2, 1, 11));
        refused(STATE, "dress(2, 9, 12) with 10", x -> x.dress(2, 9, 12));
        Check.dueRefused(STATE, "dress(0, 1, 1) with 0", () -> Citadels.withDolls(1), x -> x.dress(0, 1, 1));
    }

    static void promise06_notSoManyInStoreWithoutTheOldOnes() {
        refused(STATE, "dress(0, 1, 11) with 10 and 12 old ones", x -> x.dress(0, 1, 11));
        refused(STATE, "dress(1, 1, 11) with 10 and 5 old ones", x -> x.dress(1, 1, 11));
    }

    static void promise06_noSuchDollBeforeAWeightOrPins() {
        for (int doll : NO_DOLL) {
            refused(INDEX, "dress(" + doll + ", 0, 1)", x -> x.dress(doll, 0, 1));
            refused(INDEX, "dress(" + doll + ", 10, 12)", x -> x.dress(doll, 10, 12));
            refused(INDEX, "dress(" + doll + ", 1, -1)", x -> x.dress(doll, 1, -1));
            refused(INDEX, "dress(" + doll + ", 1, 13)", x -> x.dress(doll, 1, 13));
        }
    }

    static void promise06_noSuchDollBeforeTooFewPins() {
        for (int doll : NO_DOLL) {
            refused(INDEX, "dress(" + doll + ", 5, 4)", x -> x.dress(doll, 5, 4));
            refused(INDEX, "dress(" + doll + ", 1, 11)", x -> x.dress(doll, 1, 11));
        }
    }

    static void promise06_aWeightOrPinsBeforeTooFewPins() {
        refused(ARGUMENT, "dress(2, 10, 9), too few for it", x -> x.dress(2, 10, 9));
        refused(ARGUMENT, "dress(2, 10, 12), not in store", x -> x.dress(2, 10, 12));
        refused(ARGUMENT, "dress(2, 0, 12), not in store", x -> x.dress(2, 0, 12));
        refused(ARGUMENT, "dress(2, 9, 13), not in store", x -> x.dress(2, 9, 13));
        refused(ARGUMENT, "dress(2, 1, -1), too few for it", x -> x.dress(2, 1, -1));
    }

    // ---- bring

    static void promise07_noSuchKind() {
        for (int kind : NO_KIND) {
            refused(ARGUMENT, "bring(" + kind + ", 1)", x -> x.bring(kind, 1));
        }
        refused(ARGUMENT, "bring(-1, 0)", x -> x.bring(-1, 0));
        refused(ARGUMENT, "bring(5, 100)", x -> x.bring(5, 100));
    }

    static void promise07_soMany() {
        for (int many : new int[] {MIN, -1, 0, 100, 101, MAX}) {
            for (int kind = 0; kind <= 4; kind++) {
                int brought = kind;
                refused(ARGUMENT, "bring(" + kind + ", " + many + ")", x -> x.bring(brought, many));
            }
        }
    }

    static void promise07_soManyIntoAFullStore() {
        refusedWhenFull(ARGUMENT, "bring(0, 0)", x -> x.bring(0, 0));
        refusedWhenFull(ARGUMENT, "bring(4, 100)", x -> x.bring(4, 100));
        Check.dueUnchanged("bring(0, 1) into a full store", Citadels::full,
                x -> Check.due("bring(0, 1)", x.bring(0, 1), 99));
    }

    // ---- setMoths

    static void promise08_soManyMoths() {
        for (int moths : new int[] {MIN, -1, 4, 5, MAX}) {
            refused(ARGUMENT, "setMoths(" + moths + ")", x -> x.setMoths(moths));
        }
    }

    // ---- mend

    static void promise09_noSuchDoll() {
        for (int doll : NO_DOLL) {
            for (int kind = 0; kind <= 4; kind++) {
                int used = kind;
                refused(INDEX, "mend(" + doll + ", " + kind + ", 0)", x -> x.mend(doll, used, 0));
            }
        }
        refusedWhenEmpty(INDEX, "mend(0, 0, 0)", x -> x.mend(0, 0, 0));
        refusedWhenFull(INDEX, "mend(8, 0, 0)", x -> x.mend(8, 0, 0));
    }

    static void promise09_noSuchPlace() {
        for (int place : NO_JOINT) {
            for (int kind = 0; kind <= 4; kind++) {
                int used = kind;
                refused(INDEX, "mend(1, " + kind + ", " + place + ")", x -> x.mend(1, used, place));
            }
        }
    }

    static void promise09_noSuchKind() {
        for (int kind : NO_KIND) {
            refused(ARGUMENT, "mend(1, " + kind + ", 0)", x -> x.mend(1, kind, 0));
        }
    }

    /** A doll, dressed with 5 pins, and nothing in store. */
    private static DollCitadel dressedWithoutStore() {
        DollCitadel x = Citadels.withDolls(1);
        x.bring(2, 5);
        x.dress(0, 1, 5);
        return x;
    }

    static void promise09_noneInStore() {
        for (int kind = 0; kind <= 4; kind++) {
            int used = kind;
            Check.dueRefused(STATE, "mend(0, " + kind + ", 0) of none", RefusalsTest::dressedWithoutStore,
                    x -> x.mend(0, used, 0));
        }
    }

    static void promise09_aPinWithoutADress() {
        refused(STATE, "mend(2, 2, 0)", x -> x.mend(2, 2, 0));
    }

    static void promise09_aPinWith12() {
        refused(STATE, "mend(0, 2, 0)", x -> x.mend(0, 2, 0));
        refusedWhenFull(STATE, "mend(7, 2, 5)", x -> x.mend(7, 2, 5));
    }

    static void promise09_noSuchDollOrPlaceBeforeTheKind() {
        for (int kind : NO_KIND) {
            for (int doll : NO_DOLL) {
                refused(INDEX, "mend(" + doll + ", " + kind + ", 0)", x -> x.mend(doll, kind, 0));
            }
            for (int place : NO_JOINT) {
                refused(INDEX, "mend(1, " + kind + ", " + place + ")", x -> x.mend(1, kind, place));
            }
        }
    }

    static void promise09_noSuchDollOrPlaceBeforeNoneInStore() {
        for (int kind = 0; kind <= 4; kind++) {
            int used = kind;
            for (int place : NO_JOINT) {
                Check.dueRefused(INDEX, "mend(0, " + kind + ", " + place + ") of none",
                        RefusalsTest::dressedWithoutStore, x -> x.mend(0, used, place));
            }
            for (int doll : new int[] {MIN, -1, 1, 7, 8, MAX}) {
                Check.dueRefused(INDEX, "mend(" + doll + ", " + kind + ", 0) of none",
                        RefusalsTest::dressedWithoutStore, x -> x.mend(doll, used, 0));
            }
        }
    }

    static void promise09_noSuchPlaceBeforeNoDressOr12Pins() {
        for (int place : NO_JOINT) {
            refused(INDEX, "mend(2, 2, " + place + ") without a dress", x -> x.mend(2, 2, place));
            refused(INDEX, "mend(0, 2, " + place + ") with 12 pins", x -> x.mend(0, 2, place));
        }
    }

    static void promise09_noSuchKindBeforeNoneInStore() {
        for (int kind : NO_KIND) {
            Check.dueRefused(ARGUMENT, "mend(0, " + kind + ", 0) of none", () -> Citadels.withDolls(1),
                    x -> x.mend(0, kind, 0));
        }
    }

    // ---- joint, doll, count

    static void promise10_noSuchDollJointOrWhat() {
        for (int doll : NO_DOLL) {
            refused(INDEX, "joint(" + doll + ", 0, 0)", x -> x.joint(doll, 0, 0));
        }
        for (int joint : NO_JOINT) {
            refused(INDEX, "joint(0, " + joint + ", 0)", x -> x.joint(0, joint, 0));
        }
        for (int what : new int[] {MIN, -1, 4, 5, MAX}) {
            refused(INDEX, "joint(0, 0, " + what + ")", x -> x.joint(0, 0, what));
        }
        refusedWhenEmpty(INDEX, "joint(0, 0, 0)", x -> x.joint(0, 0, 0));
        refused(INDEX, "joint(3, 6, 4)", x -> x.joint(3, 6, 4));
    }

    static void promise11_noSuchDollOrWhat() {
        for (int doll : NO_DOLL) {
            refused(INDEX, "doll(" + doll + ", 0)", x -> x.doll(doll, 0));
        }
        for (int what : new int[] {MIN, -1, 8, 9, MAX}) {
            refused(INDEX, "doll(0, " + what + ")", x -> x.doll(0, what));
        }
        refusedWhenEmpty(INDEX, "doll(0, 0)", x -> x.doll(0, 0));
        refused(INDEX, "doll(3, 8)", x -> x.doll(3, 8));
    }

    static void promise12_noSuchWhat() {
        for (int what : new int[] {MIN, -1, 13, 14, MAX}) {
            refused(INDEX, "count(" + what + ")", x -> x.count(what));
        }
    }

    // ---- costs, often

    static void promise13_noSuchDollOrPose() {
        for (int doll : NO_DOLL) {
            refused(INDEX, "costs(" + doll + ", 1)", x -> x.costs(doll, 1));
        }
        for (int pose : NO_POSE) {
            refused(INDEX, "costs(2, " + pose + ")", x -> x.costs(2, pose));
            refused(INDEX, "costs(0, " + pose + ") of a broken doll", x -> x.costs(0, pose));
        }
        refusedWhenEmpty(INDEX, "costs(0, 0)", x -> x.costs(0, 0));
        Check.dueRefused(INDEX, "costs(0, 0) without poses", () -> Citadels.withDolls(8), x -> x.costs(0, 0));
    }

    static void promise14_noSuchDollOrPose() {
        for (int doll : NO_DOLL) {
            refused(INDEX, "often(" + doll + ", 1)", x -> x.often(doll, 1));
        }
        for (int pose : NO_POSE) {
            refused(INDEX, "often(2, " + pose + ")", x -> x.often(2, pose));
            refused(INDEX, "often(0, " + pose + ") of a broken doll", x -> x.often(0, pose));
        }
        refusedWhenEmpty(INDEX, "often(0, 0)", x -> x.often(0, 0));
        Check.dueRefused(INDEX, "often(0, 0) without poses", () -> Citadels.withDolls(8), x -> x.often(0, 0));
    }

    // ---- needs, lacks

    static void promise15_noSuchDoll() {
        for (int doll : NO_DOLL) {
            refused(INDEX, "needs(" + doll + ", 0)", x -> x.needs(doll, 0));
        }
        refusedWhenEmpty(INDEX, "needs(0, 0)", x -> x.needs(0, 0));
    }

    static void promise15_noSuchKind() {
        for (int kind : NO_KIND) {
            refused(ARGUMENT, "needs(0, " + kind + ")", x -> x.needs(0, kind));
        }
    }

    static void promise15_noSuchDollBeforeTheKind() {
        for (int kind : NO_KIND) {
            for (int doll : NO_DOLL) {
                refused(INDEX, "needs(" + doll + ", " + kind + ")", x -> x.needs(doll, kind));
            }
        }
    }

    static void promise16_noSuchKind() {
        for (int kind : NO_KIND) {
            refused(ARGUMENT, "lacks(" + kind + ")", x -> x.lacks(kind));
            refusedWhenEmpty(ARGUMENT, "lacks(" + kind + ")", x -> x.lacks(kind));
        }
    }

    // ---- foresee, pass

    static void promise18_soManyDays() {
        for (int days : NO_DAYS) {
            for (int what = 4; what <= 7; what++) {
                int asked = what;
                refused(ARGUMENT, "foresee(" + days + ", " + what + ")", x -> x.foresee(days, asked));
            }
        }
    }

    static void promise18_noSuchWhat() {
        for (int what : new int[] {MIN, -1, 0, 3, 8, 12, 13, MAX}) {
            refused(INDEX, "foresee(1, " + what + ")", x -> x.foresee(1, what));
            refused(INDEX, "foresee(60, " + what + ")", x -> x.foresee(60, what));
            refusedWhenEmpty(INDEX, "foresee(60, " + what + ")", x -> x.foresee(60, what));
        }
    }

    static void promise18_soManyDaysBeforeTheWhat() {
        for (int days : NO_DAYS) {
            for (int what : new int[] {MIN, -1, 3, 8, MAX}) {
                refused(ARGUMENT, "foresee(" + days + ", " + what + ")", x -> x.foresee(days, what));
            }
        }
    }

    static void promise19_soManyDays() {
        for (int days : NO_DAYS) {
            refused(ARGUMENT, "pass(" + days + ")", x -> x.pass(days));
            refusedWhenEmpty(ARGUMENT, "pass(" + days + ")", x -> x.pass(days));
        }
    }

    // ---- "(nothing is changed)"

    static void promise10To12_tellingChangesNothing() {
        Check.dueUnchanged("joint, doll and count", Citadels::furnished, x -> {
            x.joint(1, 3, 2);
            x.doll(1, 4);
            x.count(4);
        });
    }

    static void promise13_costsChangesNothing() {
        for (int pose = 0; pose <= 2; pose++) {
            int asked = pose;
            Check.dueUnchanged("costs", Citadels::furnished, x -> {
                x.costs(0, asked);
                x.costs(1, asked);
                x.costs(2, asked);
            });
        }
    }

    static void promise14_oftenChangesNothing() {
        for (int pose = 0; pose <= 2; pose++) {
            int asked = pose;
            Check.dueUnchanged("often", Citadels::furnished, x -> {
                x.often(0, asked);
                x.often(1, asked);
                x.often(2, asked);
            });
        }
    }

    static void promise15To17_needsLacksAndWorstChangeNothing() {
        Check.dueUnchanged("needs, lacks and worst", Citadels::furnished, x -> {
            for (int kind = 0; kind <= 4; kind++) {
                x.needs(1, kind);
                x.lacks(kind);
            }
            x.worst();
        });
    }

    static void promise18_foreseeChangesNothing() {
        for (int what = 4; what <= 7; what++) {
            int asked = what;
            Check.dueUnchanged("foresee", Citadels::furnished, x -> x.foresee(60, asked));
            Check.dueUnchanged("foresee", Citadels::full, x -> x.foresee(1, asked));
        }
    }

    static void promise20And21_meanAndDigestChangeNothing() {
        Check.dueUnchanged("mean and digest", Citadels::furnished, x -> {
            x.mean();
            x.digest();
        });
    }
}
