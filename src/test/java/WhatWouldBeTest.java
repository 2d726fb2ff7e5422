/** Promises 13 to 18, 20 and 21: costs, often, needs, lacks, worst, foresee, mean, digest. */
public final class WhatWouldBeTest {
    public static void main(String[] args) {
        Check.runAll(WhatWouldBeTest.class);
    }

    /** So many dolls, the pose 0 of zeros alone and the pose 1 of these angles. */
    private static DollCitadel withPose(int dolls, int a, int b, int c, int d, int e, int f) {
        DollCitadel x = new DollCitadel();
        for (int i = 0; i < dolls; i++) {
            x.make();
        }
        x.pose(0, 0, 0, 0, 0, 0);
        x.pose(a, b, c, d, e, f);
        return x;
    }

    private static void turnToAndFro(DollCitadel x, int doll, int times) {
        for (int i = 0; i < times; i++) {
            x.take(doll, 1 - i % 2);
        }
    }

    private static final int[][] NO_DOLL_OR_POSE = {{-1, 0}, {2, 0}, {8, 0}, {0, -1}, {0, 2}, {0, 8},
        {Integer.MIN_VALUE, 0}, {Integer.MAX_VALUE, 0}, {0, Integer.MIN_VALUE}, {0, Integer.MAX_VALUE}};

    static void promise13_costsAddsAllJoints() {
        DollCitadel x = withPose(1, 1, 9, 10, 19, 20, 90);
        long before = x.digest();
        Check.due("costs(0, 1)", x.costs(0, 1), 1 + 1 + 2 + 2 + 3 + 10);
        Check.due("costs(0, 0)", x.costs(0, 0), 0);
        Check.due("digest()", x.digest(), before);
        x.take(0, 1);
        Check.due("costs(0, 1), taken", x.costs(0, 1), 0);
        Check.due("costs(0, 0)", x.costs(0, 0), 1 + 1 + 2 + 2 + 3 + 10);
    }

    static void promise13_costsWithLacquer() {
        DollCitadel x = withPose(1, 19, 20, 39, 40, 90, 90);
        x.bring(1, 5);
        for (int joint = 0; joint < 5; joint++) {
            x.mend(0, 1, joint);
        }
        long before = x.digest();
        Check.due("costs(0, 1)", x.costs(0, 1), 0 + 1 + 1 + 2 + 4 + 10);
        Check.due("costs(0, 1) again", x.costs(0, 1), 0 + 1 + 1 + 2 + 4 + 10);
        Check.due("digest()", x.digest(), before);
    }

    static void promise13_noJointMoreThan100() {
        DollCitadel x = withPose(1, 90, 0, 0, 0, 0, 0);
        x.pose(20, 0, 0, 0, 0, 0);
        x.take(0, 2);
        turnToAndFro(x, 0, 9);
        x.take(0, 2);
        Check.due("joint(0, 0, 1)", x.joint(0, 0, 1), 99);
        Check.due("costs(0, 0)", x.costs(0, 0), 1);
        Check.due("costs(0, 1)", x.costs(0, 1), 1);
    }

    static void promise13_minus1IfItCannot() {
        DollCitadel x = withPose(2, 90, 10, 0, 0, 0, 0);
        x.pose(0, 90, 90, 90, 90, 90);
        turnToAndFro(x, 0, 10);
        long before = x.digest();
        Check.due("costs(0, 1)", x.costs(0, 1), -1);
        Check.due("costs(0, 0)", x.costs(0, 0), 0);
        Check.due("costs(0, 2)", x.costs(0, 2), 50);
        Check.due("costs(1, 1)", x.costs(1, 1), 12);
        Check.due("digest()", x.digest(), before);
    }

    static void promise13_wrongNumbers() {
        DollCitadel x = withPose(2, 90, 0, 0, 0, 0, 0);
        for (int[] w : NO_DOLL_OR_POSE) {
            Check.dueThrow(x, IndexOutOfBoundsException.class, "costs(" + w[0] + ", " + w[1] + ")",
                    () -> x.costs(w[0], w[1]));
        }
    }

    static void promise14_oftenTurnsToAndFro() {
        DollCitadel x = withPose(1, 0, 0, 90, 0, 0, 0);
        long before = x.digest();
        Check.due("often(0, 1)", x.often(0, 1), 5);
        Check.due("often(0, 1) again", x.often(0, 1), 5);
        Check.due("digest()", x.digest(), before);
        x.take(0, 1);
        x.take(0, 0);
        Check.due("often(0, 1)", x.often(0, 1), 4);
    }

    static void promise14_oftenFromTheAnglesOfNow() {
        DollCitadel x = withPose(1, 0, 0, 90, 0, 0, 0);
        x.take(0, 1);
        // It stands at 90 with 10: the first time costs only the way back, 20; then 40, 60, 80, 100.
        Check.due("often(0, 1)", x.often(0, 1), 5);
        x.take(0, 0);
        x.take(0, 1);
        Check.due("often(0, 1)", x.often(0, 1), 4);
    }

    static void promise14_aJointThatBreaksInThePoseStaysThere() {
        DollCitadel x = withPose(1, 0, 0, 90, 0, 0, 0);
        x.pose(0, 0, 45, 0, 0, 0);
        x.take(0, 2);
        // It stands at 45 with 5; the 5th time it breaks at 90 (5, then 10 and 10 each), and stays.
        x.take(0, 0);
        x.take(0, 1);
        x.take(0, 0);
        // With 30 now: 40 50, 60 70, 80 90, 100 and broken at 90, where it never has to turn again.
        Check.due("joint(0, 2, 1)", x.joint(0, 2, 1), 30);
        Check.due("often(0, 1)", x.often(0, 1), 50);
    }

    static void promise14_atMost50() {
        DollCitadel x = withPose(1, 1, 0, 0, 0, 0, 0);
        Check.due("often(0, 0)", x.often(0, 0), 50);
        Check.due("often(0, 1)", x.often(0, 1), 50);
        x.pose(9, 0, 0, 0, 0, 0);
        x.take(0, 1);
        x.take(0, 0);
        Check.due("often(0, 2) with a wear of 2", x.often(0, 2), 49);
    }

    static void promise14_lacquerIsUsedUp() {
        DollCitadel x = withPose(1, 0, 0, 0, 0, 0, 30);
        x.bring(1, 1);
        x.mend(0, 1, 5);
        // 10 times with lacquer, 1 and 1; then 4 and 4 each up to 100.
        Check.due("often(0, 1)", x.often(0, 1), 20);
        Check.dueJoint(x, 0, 5, 0, 0, 20);
    }

    static void promise14_zeroIfItCannotNow() {
        DollCitadel x = withPose(2, 90, 0, 0, 0, 0, 0);
        turnToAndFro(x, 0, 10);
        Check.due("often(0, 1)", x.often(0, 1), 0);
        Check.due("often(0, 0)", x.often(0, 0), 50);
        Check.due("often(1, 1)", x.often(1, 1), 5);
    }

    static void promise14_allJointsTurnBackNotOnlyThoseOfThePose() {
        DollCitadel x = withPose(1, 0, 60, 0, 0, 0, 0);
        x.pose(0, 60, 80, 0, 0, 0);
        x.pose(0, 0, 80, 0, 0, 0);
        x.take(0, 3);
        // The joint 2 stands at 80 and must come to 80 each time: 9 wear each way, 9 already there.
        Check.due("often(0, 2)", x.often(0, 2), 6);
    }

    static void promise14_wrongNumbers() {
        DollCitadel x = withPose(2, 90, 0, 0, 0, 0, 0);
        for (int[] w : NO_DOLL_OR_POSE) {
            Check.dueThrow(x, IndexOutOfBoundsException.class, "often(" + w[0] + ", " + w[1] + ")",
                    () -> x.often(w[0], w[1]));
        }
    }

    static void promise15_needsOfANewDoll() {
        DollCitadel x = new DollCitadel();
        x.make();
        int[] want = {0, 6, 0, 0, 0};
        for (int kind = 0; kind < 5; kind++) {
            Check.due("needs(0, " + kind + ")", x.needs(0, kind), want[kind]);
        }
    }

    static void promise15_jointsWithAWearOf50() {
        DollCitadel x = withPose(2, 90, 89, 0, 90, 0, 80);
        turnToAndFro(x, 0, 5);
        Check.due("joint(0, 5, 1)", x.joint(0, 5, 1), 45);
        Check.due("needs(0, 0)", x.needs(0, 0), 2);
        x.take(0, 0);
        Check.due("needs(0, 0)", x.needs(0, 0), 4);
        Check.due("needs(1, 0)", x.needs(1, 0), 0);
    }

    static void promise15_jointsWithoutLacquer() {
        DollCitadel x = withPose(1, 1, 1, 1, 1, 1, 1);
        x.bring(1, 3);
        x.mend(0, 1, 0);
        x.mend(0, 1, 4);
        Check.due("needs(0, 1)", x.needs(0, 1), 4);
        turnToAndFro(x, 0, 19);
        Check.due("needs(0, 1)", x.needs(0, 1), 4);
        x.take(0, 0);
        Check.due("needs(0, 1)", x.needs(0, 1), 6);
    }

    static void promise15_pinsUpTo12() {
        DollCitadel x = new DollCitadel();
        x.make();
        x.bring(2, 99);
        Check.due("needs(0, 2)", x.needs(0, 2), 0);
        x.dress(0, 1, 1);
        Check.due("needs(0, 2)", x.needs(0, 2), 11);
        x.dress(0, 9, 12);
        Check.due("needs(0, 2)", x.needs(0, 2), 0);
    }

    static void promise15_aClothForAnEyeWith5() {
        DollCitadel x = new DollCitadel();
        x.make();
        x.make();
        x.blink(0, 0);
        x.blink(1, 1);
        x.pass(4);
        Check.due("needs(0, 3)", x.needs(0, 3), 0);
        x.pass(1);
        Check.due("needs(0, 3)", x.needs(0, 3), 1);
        Check.due("needs(1, 3)", x.needs(1, 3), 1);
        x.blink(0, 0);
        x.pass(5);
        Check.due("needs(0, 3) with both", x.needs(0, 3), 1);
    }

    static void promise15_aWigForNoneOrOneEatenBy5() {
        DollCitadel x = new DollCitadel();
        x.make();
        x.pass(4);
        Check.due("needs(0, 4)", x.needs(0, 4), 0);
        x.pass(1);
        Check.due("needs(0, 4)", x.needs(0, 4), 1);
        x.pass(5);
        Check.due("doll(0, 4)", x.doll(0, 4), -1);
        Check.due("needs(0, 4)", x.needs(0, 4), 1);
    }

    static void promise15_wrongArguments() {
        DollCitadel x = new DollCitadel();
        x.make();
        for (int doll : new int[] {-1, 1, 8, Integer.MIN_VALUE, Integer.MAX_VALUE}) {
            Check.dueThrow(x, IndexOutOfBoundsException.class, "needs(" + doll + ", 5)", () -> x.needs(doll, 5));
        }
        for (int kind : new int[] {-1, 5, Integer.MIN_VALUE, Integer.MAX_VALUE}) {
            Check.dueThrow(x, IllegalArgumentException.class, "needs(0, " + kind + ")", () -> x.needs(0, kind));
        }
    }

    static void promise16_lacksAddsAllDolls() {
        DollCitadel x = new DollCitadel();
        Check.due("lacks(1) without dolls", x.lacks(1), 0);
        x.make();
        x.make();
        x.make();
        Check.due("lacks(1)", x.lacks(1), 18);
        x.bring(1, 17);
        Check.due("lacks(1)", x.lacks(1), 1);
        x.bring(1, 1);
        Check.due("lacks(1)", x.lacks(1), 0);
        x.bring(1, 1);
        Check.due("lacks(1)", x.lacks(1), 0);
    }

    static void promise16_lacksOfEachKind() {
        DollCitadel x = withPose(3, 90, 90, 0, 0, 0, 0);
        turnToAndFro(x, 0, 5);
        turnToAndFro(x, 2, 5);
        x.bring(2, 14);
        x.dress(0, 1, 2);
        x.dress(1, 1, 9);
        x.pass(5);
        // Of the pins 10 and 3 are needed, and 3 are in store.
        int[] want = {4, 18, 10, 3, 3};
        for (int kind = 0; kind < 5; kind++) {
            Check.due("lacks(" + kind + ")", x.lacks(kind), want[kind]);
        }
        x.bring(0, 1);
        x.bring(3, 2);
        x.bring(4, 3);
        Check.due("lacks(0)", x.lacks(0), 3);
        Check.due("lacks(3)", x.lacks(3), 1);
        Check.due("lacks(4)", x.lacks(4), 0);
    }

    static void promise16_wrongArguments() {
        DollCitadel x = new DollCitadel();
        for (int kind : new int[] {-1, 5, Integer.MIN_VALUE, Integer.MAX_VALUE}) {
            Check.dueThrow(x, IllegalArgumentException.class, "lacks(" + kind + ")", () -> x.lacks(kind));
        }
    }

    static void promise17_worstAddsAllKinds() {
        DollCitadel x = withPose(3, 0, 0, 90, 0, 0, 0);
        Check.due("worst() of equal ones", x.worst(), 0);
        x.bring(2, 60);
        x.dress(2, 1, 10);
        Check.due("worst() by 2 pins", x.worst(), 2);
        x.dress(1, 1, 9);
        Check.due("worst() by 3 pins", x.worst(), 1);
        x.pass(5);
        x.bring(3, 1);
        x.bring(4, 1);
        x.mend(1, 3, 0);
        Check.due("worst(), equal, of cloth and pin", x.worst(), 1);
        x.mend(1, 4, 0);
        Check.due("worst() by wig", x.worst(), 2);
        turnToAndFro(x, 0, 5);
        x.dress(1, 1, 12);
        x.dress(2, 1, 12);
        Check.due("worst() by a joint", x.worst(), 0);
    }

    static void promise17_aWornJointCountsOnce() {
        DollCitadel x = withPose(3, 0, 0, 90, 0, 0, 0);
        turnToAndFro(x, 1, 5);
        turnToAndFro(x, 2, 5);
        Check.due("worst() by a joint", x.worst(), 1);
        x.bring(2, 11);
        x.dress(0, 1, 11);
        Check.due("worst(), equal, of pin and joint", x.worst(), 0);
    }

    static void promise17_aWigCountsOnce() {
        DollCitadel x = withPose(2, 0, 0, 0, 0, 0, 0);
        x.bring(2, 11);
        x.bring(4, 1);
        x.dress(0, 1, 11);
        x.pass(10);
        x.mend(0, 4, 0);
        Check.due("worst(), equal, of pin and wig", x.worst(), 0);
    }

    static void promise17_minus1IfNoneNeedsAnything() {
        DollCitadel x = new DollCitadel();
        Check.due("worst() without dolls", x.worst(), -1);
        x.make();
        x.make();
        x.bring(1, 12);
        for (int doll = 1; doll >= 0; doll--) {
            for (int joint = 0; joint < 6; joint++) {
                Check.due("worst()", x.worst(), 0);
                x.mend(doll, 1, joint);
            }
        }
        Check.due("worst() with all lacquered", x.worst(), -1);
    }

    static void promise18_foreseesWigsAndStuckEyes() {
        DollCitadel x = new DollCitadel();
        x.make();
        x.make();
        x.make();
        x.blink(1, 0);
        x.bring(4, 1);
        x.pass(3);
        x.mend(2, 4, 0);
        long before = x.digest();
        Check.due("foresee(6, 5)", x.foresee(6, 5), 3);
        Check.due("foresee(7, 5)", x.foresee(7, 5), 1);
        Check.due("foresee(10, 5)", x.foresee(10, 5), 0);
        Check.due("foresee(60, 5)", x.foresee(60, 5), 0);
        Check.due("foresee(5, 7)", x.foresee(5, 7), 0);
        Check.due("foresee(6, 7)", x.foresee(6, 7), 5);
        Check.due("foresee(60, 7)", x.foresee(60, 7), 5);
        Check.due("digest()", x.digest(), before);
        x.setMoths(0);
        Check.due("foresee(60, 5) without moths", x.foresee(60, 5), 3);
    }

    static void promise18_foreseesBrokenJointsAndDresses() {
        DollCitadel x = withPose(2, 90, 0, 0, 0, 0, 90);
        x.bring(2, 20);
        x.dress(0, 3, 5);
        x.dress(1, 3, 5);
        turnToAndFro(x, 0, 10);
        long before = x.digest();
        Check.due("foresee(1, 4)", x.foresee(1, 4), 2);
        Check.due("foresee(60, 4)", x.foresee(60, 4), 2);
        Check.due("foresee(2, 6)", x.foresee(2, 6), 2);
        Check.due("foresee(3, 6)", x.foresee(3, 6), 1);
        Check.due("foresee(60, 6)", x.foresee(60, 6), 1);
        Check.due("digest()", x.digest(), before);
    }

    static void promise18_foreseesWhatPassBrings() {
        for (int days = 1; days <= 60; days++) {
            DollCitadel x = withPose(2, 0, 0, 0, 0, 0, 90);
            x.bring(2, 30);
            x.dress(0, 2, 12);
            x.dress(1, 5, 9);
            turnToAndFro(x, 1, 6);
            x.blink(0, 1);
            int[] want = new int[8];
            for (int what = 4; what <= 7; what++) {
                want[what] = x.foresee(days, what);
            }
            x.pass(days);
            for (int what = 4; what <= 7; what++) {
                Check.due("foresee(" + days + ", " + what + ")", want[what], x.count(what));
            }
        }
    }

    static void promise18_wrongArgumentsInTheirOrder() {
        DollCitadel x = new DollCitadel();
        x.make();
        for (int days : new int[] {0, 61, -1, Integer.MIN_VALUE, Integer.MAX_VALUE}) {
            Check.dueThrow(x, IllegalArgumentException.class, "foresee(" + days + ", 4)", () -> x.foresee(days, 4));
            Check.dueThrow(x, IllegalArgumentException.class, "foresee(" + days + ", 8)", () -> x.foresee(days, 8));
        }
        for (int what : new int[] {3, 8, -1, 0, Integer.MIN_VALUE, Integer.MAX_VALUE}) {
            Check.dueThrow(x, IndexOutOfBoundsException.class, "foresee(1, " + what + ")", () -> x.foresee(1, what));
        }
        Check.due("foresee(1, 4)", x.foresee(1, 4), 0);
        Check.due("foresee(60, 7)", x.foresee(60, 7), 2);
    }

    static void promise20_meanOfAllJointsOfAllDolls() {
        DollCitadel x = new DollCitadel();
        Check.dueDouble("mean() without dolls", x.mean(), 0.0);
        x.make();
        Check.dueDouble("mean() of a new doll", x.mean(), 0.0);
        x.pose(1, 9, 10, 19, 20, 90);
        x.take(0, 0);
        Check.dueDouble("mean()", x.mean(), 19.0 / 6.0);
        x.make();
        x.make();
        Check.dueDouble("mean() of three", x.mean(), 19.0 / 18.0);
        x.take(2, 0);
        Check.dueDouble("mean() of three", x.mean(), 38.0 / 18.0);
    }

    private static long folded(long... numbers) {
        long d = 1063L;
        for (long x : numbers) {
            d = d * 31L + x;
        }
        return d;
    }

    static void promise21_digestOfANewCitadel() {
        DollCitadel x = new DollCitadel();
        Check.due("digest()", x.digest(), folded(0, 0, 0, 1, 0, 0, 0, 0, 0, 0, 0, 0, 0));
    }

    static void promise21_digestFoldsCountsPosesDollsAndJoints() {
        DollCitadel x = new DollCitadel();
        x.make();
        x.make();
        x.pose(10, 20, 30, 40, 50, 60);
        x.pose(6, 5, 4, 3, 2, 1);
        x.bring(0, 1);
        x.bring(1, 3);
        x.bring(2, 9);
        x.bring(3, 4);
        x.bring(4, 5);
        x.mend(1, 1, 4);
        x.dress(0, 2, 3);
        x.take(1, 0);
        x.blink(1, 1);
        x.pass(1);
        x.setMoths(0);
        Check.due("digest()", x.digest(), folded(1, 2, 2, 0, 0, 2, 1, 0, 1, 2, 6, 4, 5,
                10, 20, 30, 40, 50, 60, 6, 5, 4, 3, 2, 1,
                1, 1, 1, 1, 1, 2, 3, 0,
                0, 0, 0, 0, 0, 0, 0, 0, 0, 0, 0, 0, 0, 0, 0, 0, 0, 0, 0, 0, 0, 0, 0, 0,
                1, 0, 1, 0, 1, 0, 0, 1,
                10, 2, 0, 0, 20, 3, 0, 0, 30, 4, 0, 0, 40, 5, 0, 0, 50, 2, 18, 0, 60, 7, 0, 0));
    }

    static void promise21_digestWithALostWigAndABrokenJoint() {
        DollCitadel x = withPose(1, 0, 90, 0, 0, 0, 0);
        turnToAndFro(x, 0, 10);
        x.pass(10);
        Check.due("digest()", x.digest(), folded(10, 1, 2, 1, 1, 0, 0, 2, 0, 0, 0, 0, 0,
                0, 0, 0, 0, 0, 0, 0, 90, 0, 0, 0, 0,
                1, 1, 9, 9, -1, 0, 0, 10,
                0, 0, 0, 0, 0, 100, 0, 1, 0, 0, 0, 0, 0, 0, 0, 0, 0, 0, 0, 0, 0, 0, 0, 0));
    }
}
