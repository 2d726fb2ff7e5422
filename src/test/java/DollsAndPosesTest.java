/** Promises 1 to 6: a new object, make, pose, take, blink, dress. */
public final class DollsAndPosesTest {
    public static void main(String[] args) {
        Check.runAll(DollsAndPosesTest.class);
    }

    private static DollCitadel withDolls(int many) {
        DollCitadel x = new DollCitadel();
        for (int i = 0; i < many; i++) {
            x.make();
        }
        return x;
    }

    /** A citadel with the dolls 0 and 1, the pose 0 of zeros alone and the pose 1 with 90 for the joint. */
    private static DollCitadel withJointPoses(int joint) {
        DollCitadel x = withDolls(2);
        x.pose(0, 0, 0, 0, 0, 0);
        int[] a = new int[6];
        a[joint] = 90;
        x.pose(a[0], a[1], a[2], a[3], a[4], a[5]);
        return x;
    }

    /** Turns by 90 without lacquer, 10 wear each. */
    private static void turnToAndFro(DollCitadel x, int times) {
        for (int i = 0; i < times; i++) {
            x.take(0, i % 2 == 0 ? 1 : 0);
        }
    }

    static void promise01_newObjectIsEmptyOnDay0() {
        DollCitadel x = new DollCitadel();
        Check.dueCounts(x, 0, 0, 0, 1, 0, 0, 0, 0, 0, 0, 0, 0, 0);
        Check.dueThrow(x, IndexOutOfBoundsException.class, "doll(0, 0)", () -> x.doll(0, 0));
        Check.due("worst()", x.worst(), -1);
    }

    static void promise01_objectsShareNothing() {
        DollCitadel x = new DollCitadel();
        DollCitadel y = new DollCitadel();
        x.make();
        x.pose(1, 2, 3, 4, 5, 6);
        x.bring(0, 5);
        x.setMoths(3);
        x.pass(2);
        Check.dueCounts(y, 0, 0, 0, 1, 0, 0, 0, 0, 0, 0, 0, 0, 0);
    }

    static void promise02_makeNumbersDollsInOrder() {
        DollCitadel x = new DollCitadel();
        for (int i = 0; i < 8; i++) {
            Check.due("make()", x.make(), i);
            Check.due("count(1)", x.count(1), i + 1);
        }
        Check.dueThrow(x, IllegalStateException.class, "make() with 8", () -> x.make());
        Check.due("count(1)", x.count(1), 8);
    }

    static void promise02_newDollIsAsTheTermsSay() {
        DollCitadel x = withDolls(1);
        Check.dueDoll(x, 0, 1, 1, 0, 0, 0, 0, 0, 0);
        for (int joint = 0; joint < 6; joint++) {
            Check.dueJoint(x, 0, joint, 0, 0, 0);
        }
    }

    static void promise02_laterDollIsNewToo() {
        DollCitadel x = withJointPoses(2);
        x.take(0, 1);
        x.pass(4);
        Check.due("make()", x.make(), 2);
        Check.dueDoll(x, 2, 1, 1, 0, 0, 0, 0, 0, 0);
        Check.dueJoint(x, 2, 2, 0, 0, 0);
    }

    static void promise03_poseNumbersInOrderAndTellsAngles() {
        DollCitadel x = withDolls(1);
        Check.due("pose", x.pose(1, 2, 3, 4, 5, 6), 0);
        Check.due("pose", x.pose(90, 0, 89, 1, 45, 90), 1);
        Check.due("count(2)", x.count(2), 2);
        x.take(0, 0);
        for (int joint = 0; joint < 6; joint++) {
            Check.due("angle " + joint, x.joint(0, joint, 0), joint + 1);
        }
        x.take(0, 1);
        int[] want = {90, 0, 89, 1, 45, 90};
        for (int joint = 0; joint < 6; joint++) {
            Check.due("angle " + joint, x.joint(0, joint, 0), want[joint]);
        }
    }

    static void promise03_eachWrongAngleIsRefused() {
        DollCitadel x = new DollCitadel();
        int[] wrongAngles = {-1, 91, Integer.MIN_VALUE, Integer.MAX_VALUE};
        for (int angle : wrongAngles) {
            for (int at = 0; at < 6; at++) {
                int[] a = new int[6];
                a[at] = angle;
                Check.dueThrow(x, IllegalArgumentException.class, "pose with " + angle + " at " + at,
                        () -> x.pose(a[0], a[1], a[2], a[3], a[4], a[5]));
            }
        }
        Check.due("count(2)", x.count(2), 0);
        Check.due("pose", x.pose(0, 90, 0, 90, 0, 90), 0);
    }

    static void promise03_atMost8Poses() {
        DollCitadel x = new DollCitadel();
        for (int i = 0; i < 8; i++) {
            Check.due("pose", x.pose(i, 0, 0, 0, 0, 0), i);
        }
        Check.dueThrow(x, IllegalStateException.class, "the 9th pose", () -> x.pose(0, 0, 0, 0, 0, 0));
        Check.dueThrow(x, IllegalArgumentException.class, "a wrong 9th pose", () -> x.pose(0, 0, 0, 0, 0, 91));
        Check.due("count(2)", x.count(2), 8);
    }

    static void promise04_turningWithoutLacquer() {
        DollCitadel x = withDolls(2);
        x.pose(1, 9, 10, 19, 20, 90);
        Check.due("take(0, 0)", x.take(0, 0), 0);
        Check.dueJoint(x, 0, 0, 1, 1, 0);
        Check.dueJoint(x, 0, 1, 9, 1, 0);
        Check.dueJoint(x, 0, 2, 10, 2, 0);
        Check.dueJoint(x, 0, 3, 19, 2, 0);
        Check.dueJoint(x, 0, 4, 20, 3, 0);
        Check.dueJoint(x, 0, 5, 90, 10, 0);
        Check.due("doll(0, 7)", x.doll(0, 7), 1);
        Check.dueJoint(x, 1, 5, 0, 0, 0);
        Check.due("doll(1, 7)", x.doll(1, 7), 0);
    }

    static void promise04_turningWithLacquer() {
        DollCitadel x = withDolls(1);
        x.pose(1, 19, 20, 39, 40, 90);
        x.bring(1, 6);
        for (int joint = 0; joint < 6; joint++) {
            x.mend(0, 1, joint);
        }
        Check.due("take(0, 0)", x.take(0, 0), 0);
        Check.dueJoint(x, 0, 0, 1, 0, 19);
        Check.dueJoint(x, 0, 1, 19, 0, 19);
        Check.dueJoint(x, 0, 2, 20, 1, 19);
        Check.dueJoint(x, 0, 3, 39, 1, 19);
        Check.dueJoint(x, 0, 4, 40, 2, 19);
        Check.dueJoint(x, 0, 5, 90, 4, 19);
    }

    static void promise04_lacquerIsUsedUpAndThenWearIsGreater() {
        DollCitadel x = withJointPoses(0);
        x.bring(1, 1);
        x.mend(0, 1, 0);
        turnToAndFro(x, 19);
        Check.dueJoint(x, 0, 0, 90, 76, 1);
        Check.due("take(0, 0)", x.take(0, 0), 0);
        Check.dueJoint(x, 0, 0, 0, 80, 0);
        Check.due("take(0, 1)", x.take(0, 1), 0);
        Check.dueJoint(x, 0, 0, 90, 90, 0);
    }

    static void promise04_turnsByTheDifferenceDownwardsToo() {
        DollCitadel x = withDolls(1);
        x.pose(50, 50, 50, 50, 50, 50);
        x.pose(20, 80, 50, 49, 51, 0);
        x.take(0, 0);
        x.take(0, 1);
        Check.dueJoint(x, 0, 0, 20, 6 + 4, 0);
        Check.dueJoint(x, 0, 1, 80, 6 + 4, 0);
        Check.dueJoint(x, 0, 2, 50, 6, 0);
        Check.dueJoint(x, 0, 3, 49, 6 + 1, 0);
        Check.dueJoint(x, 0, 4, 51, 6 + 1, 0);
        Check.dueJoint(x, 0, 5, 0, 6 + 6, 0);
    }

    static void promise04_standingStillCostsNothingButCounts() {
        DollCitadel x = withDolls(1);
        x.pose(0, 0, 0, 0, 0, 0);
        x.bring(1, 1);
        x.mend(0, 1, 3);
        Check.due("take(0, 0)", x.take(0, 0), 0);
        Check.dueJoint(x, 0, 3, 0, 0, 20);
        Check.due("doll(0, 7)", x.doll(0, 7), 1);
    }

    static void promise04_breaksAtExactly100AndCannotTurn() {
        DollCitadel x = withJointPoses(4);
        x.pose(30, 0, 0, 0, 0, 0);
        turnToAndFro(x, 9);
        Check.dueJoint(x, 0, 4, 90, 90, 0);
        Check.due("the breaking take", x.take(0, 0), 1);
        Check.dueJoint(x, 0, 4, 0, 100, 0);
        Check.dueThrow(x, IllegalStateException.class, "take with a broken joint", () -> x.take(0, 1));
        Check.due("doll(0, 7)", x.doll(0, 7), 10);
        Check.due("take of what leaves it still", x.take(0, 2), 0);
        Check.dueJoint(x, 0, 0, 30, 4, 0);
        Check.due("the other doll can", x.take(1, 1), 0);
    }

    /** The joint 3 of the doll 0 stands at 20 with a wear of 99: 3 + 8 + 8 times 10 + 8. */
    private static DollCitadel withWear99() {
        DollCitadel x = withJointPoses(3);
        x.pose(0, 0, 0, 20, 0, 0);
        x.take(0, 2);
        turnToAndFro(x, 9);
        x.take(0, 2);
        Check.dueJoint(x, 0, 3, 20, 99, 0);
        return x;
    }

    static void promise04_wearIsAtMost100() {
        DollCitadel x = withWear99();
        Check.due("take(0, 0)", x.take(0, 0), 1);
        Check.dueJoint(x, 0, 3, 0, 100, 0);
    }

    static void promise04_wearIsAtMost100WithLacquerToo() {
        DollCitadel x = withWear99();
        x.bring(1, 1);
        x.mend(0, 1, 3);
        Check.due("take(0, 1)", x.take(0, 1), 1);
        Check.dueJoint(x, 0, 3, 90, 100, 19);
    }

    static void promise04_brokenWithLacquerIsBrokenStill() {
        DollCitadel x = withJointPoses(0);
        turnToAndFro(x, 10);
        x.bring(1, 1);
        x.mend(0, 1, 0);
        Check.dueJoint(x, 0, 0, 0, 100, 20);
        Check.dueThrow(x, IllegalStateException.class, "take", () -> x.take(0, 1));
    }

    static void promise04_severalJointsBreakAtOnce() {
        DollCitadel x = withDolls(1);
        x.pose(0, 0, 0, 0, 0, 0);
        x.pose(90, 90, 0, 80, 0, 90);
        turnToAndFro(x, 9);
        Check.due("take(0, 0)", x.take(0, 0), 3);
        Check.due("count(4)", x.count(4), 3);
        Check.dueJoint(x, 0, 3, 0, 90, 0);
        Check.due("a take with broken joints that stand still", x.take(0, 0), 0);
    }

    static void promise04_wrongNumbers() {
        DollCitadel x = withJointPoses(0);
        int[][] wrongs = {{-1, 0}, {2, 0}, {8, 0}, {0, -1}, {0, 2}, {0, 8}, {Integer.MIN_VALUE, 0},
            {Integer.MAX_VALUE, 0}, {0, Integer.MIN_VALUE}, {0, Integer.MAX_VALUE}};
        for (int[] w : wrongs) {
            Check.dueThrow(x, IndexOutOfBoundsException.class, "take(" + w[0] + ", " + w[1] + ")",
                    () -> x.take(w[0], w[1]));
        }
    }

    static void promise05_blinkClosesAndOpens() {
        DollCitadel x = withDolls(2);
        Check.dueTrue("blink(0, 0) closes", !x.blink(0, 0));
        Check.dueDoll(x, 0, 0, 1);
        Check.dueTrue("blink(0, 1) closes", !x.blink(0, 1));
        Check.dueDoll(x, 0, 0, 0);
        Check.dueTrue("blink(0, 0) opens", x.blink(0, 0));
        Check.dueDoll(x, 0, 1, 0);
        Check.dueDoll(x, 1, 1, 1);
    }

    static void promise05_stuckEyeRefuses() {
        DollCitadel x = withDolls(1);
        x.blink(0, 1);
        x.pass(8);
        Check.dueDoll(x, 0, 1, 0, 8, 0);
        Check.dueTrue("with 8 it closes", !x.blink(0, 0));
        Check.dueTrue("and opens", x.blink(0, 0));
        x.pass(1);
        Check.dueThrow(x, IllegalStateException.class, "blink(0, 0)", () -> x.blink(0, 0));
        Check.dueTrue("the other opens", x.blink(0, 1));
    }

    static void promise05_wrongNumbers() {
        DollCitadel x = withDolls(1);
        x.pass(9);
        int[][] wrongs = {{-1, 0}, {1, 0}, {8, 0}, {0, -1}, {0, 2}, {Integer.MAX_VALUE, 0}, {0, Integer.MIN_VALUE}};
        for (int[] w : wrongs) {
            Check.dueThrow(x, IndexOutOfBoundsException.class, "blink(" + w[0] + ", " + w[1] + ")",
                    () -> x.blink(w[0], w[1]));
        }
    }

    static void promise06_dressTakesPinsOutOfTheStore() {
        DollCitadel x = withDolls(2);
        x.bring(2, 30);
        Check.due("dress(0, 9, 12)", x.dress(0, 9, 12), 18);
        Check.dueDoll(x, 0, 1, 1, 0, 0, 0, 9, 12);
        Check.due("count(10)", x.count(10), 18);
        Check.due("count(6)", x.count(6), 1);
        Check.due("dress(1, 1, 1)", x.dress(1, 1, 1), 17);
        Check.dueDoll(x, 1, 1, 1, 0, 0, 0, 1, 1);
    }

    static void promise06_oldPinsComeBackOnlyAfterwards() {
        DollCitadel x = withDolls(1);
        x.bring(2, 12);
        x.dress(0, 2, 8);
        Check.due("count(10)", x.count(10), 4);
        Check.dueThrow(x, IllegalStateException.class, "dress(0, 5, 5) with 4 in store", () -> x.dress(0, 5, 5));
        Check.due("dress(0, 4, 4)", x.dress(0, 4, 4), 8);
        Check.dueDoll(x, 0, 1, 1, 0, 0, 0, 4, 4);
    }

    static void promise06_storeHoldsAtMost99() {
        DollCitadel x = withDolls(1);
        x.bring(2, 12);
        x.dress(0, 1, 12);
        x.bring(2, 99);
        Check.due("dress(0, 3, 3)", x.dress(0, 3, 3), 99);
    }

    static void promise06_pinsAgainstWeightAndStore() {
        DollCitadel x = withDolls(1);
        Check.dueThrow(x, IllegalStateException.class, "an empty store", () -> x.dress(0, 1, 1));
        x.bring(2, 7);
        Check.dueThrow(x, IllegalStateException.class, "dress(0, 8, 7)", () -> x.dress(0, 8, 7));
        Check.dueThrow(x, IllegalStateException.class, "dress(0, 1, 8)", () -> x.dress(0, 1, 8));
        Check.dueThrow(x, IllegalStateException.class, "dress(0, 1, 0)", () -> x.dress(0, 1, 0));
        Check.due("dress(0, 7, 7)", x.dress(0, 7, 7), 0);
    }

    static void promise06_wrongArguments() {
        DollCitadel x = withDolls(1);
        x.bring(2, 99);
        int[][] wrongs = {{0, 5}, {10, 12}, {-1, 5}, {5, -1}, {5, 13}, {Integer.MIN_VALUE, 5},
            {5, Integer.MAX_VALUE}, {Integer.MAX_VALUE, 5}, {9, -1}};
        for (int[] w : wrongs) {
            Check.dueThrow(x, IllegalArgumentException.class, "dress(0, " + w[0] + ", " + w[1] + ")",
                    () -> x.dress(0, w[0], w[1]));
        }
        for (int doll : new int[] {-1, 1, 8, Integer.MIN_VALUE, Integer.MAX_VALUE}) {
            Check.dueThrow(x, IndexOutOfBoundsException.class, "dress(" + doll + ", 0, 13)",
                    () -> x.dress(doll, 0, 13));
        }
    }
}
