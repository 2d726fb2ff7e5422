/** Promises 10 to 12, a test for each sentence that names a bound; what is refused stands in RefusalsTest too. */
public final class WhatIsThereBoundsTest {
    private static final Class<IndexOutOfBoundsException> INDEX = IndexOutOfBoundsException.class;

    public static void main(String[] args) {
        Check.runAll(WhatIsThereBoundsTest.class);
    }

    // "if there is no such doll, joint is not 0 to 5, or what is not 0 to 3"
    static void promise10_eachDollAndJointAndWhat() {
        DollCitadel x = Citadels.withDolls(8);
        x.pose(10, 20, 30, 40, 50, 60);
        x.take(0, 0);
        x.take(7, 0);
        for (int joint = 0; joint <= 5; joint++) {
            int angle = 10 * (joint + 1);
            Check.dueJoint(x, 0, joint, angle, joint + 2, 0);
            Check.dueJoint(x, 3, joint, 0, 0, 0);
            Check.dueJoint(x, 7, joint, angle, joint + 2, 0);
        }
    }

    static void promise10_oneBesideEachBound() {
        DollCitadel x = Citadels.withDolls(8);
        int[][] wrongs = {{-1, 0, 0}, {8, 0, 0}, {0, -1, 0}, {0, 6, 0}, {0, 0, -1}, {0, 0, 4}, {7, 5, 4}, {7, 6, 3},
            {8, 5, 3}};
        for (int[] w : wrongs) {
            Check.dueThrow(x, INDEX, "joint(" + w[0] + ", " + w[1] + ", " + w[2] + ")",
                    () -> x.joint(w[0], w[1], w[2]));
        }
    }

    // "3 1 if it is broken, else 0"
    static void promise10_brokenIsToldOf100Alone() {
        int[] wears = {0, 2, 50, 98, 99, 100};
        for (int wear : wears) {
            for (int joint : Citadels.ALL_JOINTS) {
                DollCitadel x = Citadels.worn(wear, joint);
                Check.due("with " + wear, x.joint(0, joint, 3), wear == 100 ? 1 : 0);
            }
        }
    }

    static void promise10_brokenIsToldWithLacquerToo() {
        DollCitadel x = Citadels.worn(100, 1);
        x.bring(1, 1);
        x.mend(0, 1, 1);
        Check.dueJoint(x, 0, 1, 0, 100, 20);
    }

    // "if there is no such doll, or what is not 0 to 7"
    static void promise11_eachDollAndWhat() {
        DollCitadel x = Citadels.withDolls(8);
        Check.dueDoll(x, 0, 1, 1, 0, 0, 0, 0, 0, 0);
        Check.dueDoll(x, 7, 1, 1, 0, 0, 0, 0, 0, 0);
        int[][] wrongs = {{-1, 0}, {8, 0}, {0, -1}, {0, 8}, {7, 8}, {8, 7}};
        for (int[] w : wrongs) {
            Check.dueThrow(x, INDEX, "doll(" + w[0] + ", " + w[1] + ")", () -> x.doll(w[0], w[1]));
        }
    }

    // "0 1 if the eye 0 is open, else 0, 1 likewise of the eye 1"
    static void promise11_bothEyesOpenAndClosed() {
        DollCitadel x = Citadels.withDolls(1);
        Check.dueDoll(x, 0, 1, 1);
        x.blink(0, 1);
        Check.dueDoll(x, 0, 1, 0);
        x.blink(0, 0);
        Check.dueDoll(x, 0, 0, 0);
        x.blink(0, 1);
        Check.dueDoll(x, 0, 0, 1);
    }

    // "4 by how much its wig is eaten, -1 without one"
    static void promise11_aWigEatenBy0By9AndNone() {
        DollCitadel x = Citadels.withDolls(1);
        for (int day = 0; day <= 9; day++) {
            Check.due("doll(0, 4) on " + day, x.doll(0, 4), day);
            x.pass(1);
        }
        Check.due("doll(0, 4) without one", x.doll(0, 4), -1);
    }

    // "5 the weight of its dress, 0 without one, 6 the pins of its dress"
    static void promise11_aDressAndNone() {
        DollCitadel x = Citadels.worn(50, 5);
        x.bring(2, 99);
        Check.dueDoll(x, 0, 1, 1, 0, 0, 0, 0, 0);
        x.dress(0, 9, 12);
        Check.dueDoll(x, 0, 1, 1, 0, 0, 0, 9, 12);
        x.pass(3);
        Check.dueDoll(x, 0, 1, 1, 3, 3, 3, 9, 9);
        x.pass(1);
        Check.dueDoll(x, 0, 1, 1, 4, 4, 4, 0, 0);
    }

    // "7 poses that it took in all": not those that it could not take, nor those that were only asked for
    static void promise11_onlyPosesThatItTookAreCounted() {
        DollCitadel x = Citadels.worn(100, 0);
        int taken = x.doll(0, 7);
        Check.due("doll(0, 7)", taken, 10);
        Check.dueThrow(x, IllegalStateException.class, "take(0, 1)", () -> x.take(0, Citadels.FAR));
        Check.dueThrow(x, INDEX, "take(0, 4)", () -> x.take(0, 4));
        x.costs(0, Citadels.REST);
        x.often(0, Citadels.REST);
        Check.due("doll(0, 7)", x.doll(0, 7), 10);
        x.take(0, Citadels.REST);
        Check.due("doll(0, 7)", x.doll(0, 7), 11);
        Check.due("doll(1, 7)", x.doll(1, 7), 0);
    }

    // "Throws IndexOutOfBoundsException if what is not 0 to 12"
    static void promise12_0And12AreToldMinus1And13AreNot() {
        DollCitadel x = new DollCitadel();
        Check.due("count(0)", x.count(0), 0);
        Check.due("count(12)", x.count(12), 0);
        Check.dueThrow(x, INDEX, "count(-1)", () -> x.count(-1));
        Check.dueThrow(x, INDEX, "count(13)", () -> x.count(13));
    }

    static void promise12_nothingThere() {
        Check.dueCounts(new DollCitadel(), 0, 0, 0, 1, 0, 0, 0, 0, 0, 0, 0, 0, 0);
        Check.dueCounts(Citadels.withDolls(8), 0, 8, 0, 1, 0, 8, 0, 0, 0, 0, 0, 0, 0);
    }

    static void promise12_allFull() {
        Check.dueCounts(Citadels.full(), 9, 8, 8, 3, 48, 0, 8, 16, 99, 99, 99, 99, 99);
    }

    // "4 broken joints"
    static void promise12_eachJointWith100IsCounted() {
        for (int joint : Citadels.ALL_JOINTS) {
            Check.due("count(4) with 99", Citadels.worn(99, joint).count(4), 0);
            Check.due("count(4) with 100", Citadels.worn(100, joint).count(4), 1);
        }
    }

    // "5 wigs that dolls have"
    static void promise12_aWigEatenBy9IsOneStill() {
        DollCitadel x = Citadels.withDolls(2);
        x.pass(9);
        Check.due("count(5) with 9", x.count(5), 2);
        x.bring(4, 1);
        x.mend(0, 4, 0);
        x.pass(1);
        Check.due("count(5) with one lost", x.count(5), 1);
    }

    // "6 dresses that are worn"
    static void promise12_aNewDressInsteadOfTheOldIsOneStill() {
        DollCitadel x = Citadels.withDolls(2);
        x.bring(2, 99);
        x.dress(0, 1, 1);
        x.dress(0, 9, 9);
        Check.due("count(6)", x.count(6), 1);
        x.dress(1, 1, 1);
        Check.due("count(6)", x.count(6), 2);
    }

    // "7 eyes that are stuck"
    static void promise12_eachEyeWith9IsCounted() {
        DollCitadel x = Citadels.withDolls(2);
        x.blink(0, 1);
        x.blink(1, 0);
        x.pass(8);
        Check.due("count(7) with 8", x.count(7), 0);
        x.pass(1);
        Check.due("count(7) with 9", x.count(7), 2);
        x.blink(0, 1);
        x.blink(1, 0);
        x.pass(9);
        Check.due("count(7) with all", x.count(7), 4);
        x.bring(3, 1);
        x.mend(1, 3, 0);
        Check.due("count(7) behind a cloth", x.count(7), 2);
    }
}
