/** Promises 1 to 6, a test for each sentence that names a bound; what is refused stands in RefusalsTest too. */
public final class DollsAndPosesBoundsTest {
    private static final Class<IndexOutOfBoundsException> INDEX = IndexOutOfBoundsException.class;
    private static final Class<IllegalStateException> STATE = IllegalStateException.class;

    public static void main(String[] args) {
        Check.runAll(DollsAndPosesBoundsTest.class);
    }

    private static DollCitadel withPins(int inStore) {
        DollCitadel x = Citadels.withDolls(1);
        x.bring(2, inStore);
        return x;
    }

    // "Creates a citadel without dolls, on the day 0."
    static void promise01_nothingIsThere() {
        DollCitadel x = new DollCitadel();
        Check.dueCounts(x, 0, 0, 0, 1, 0, 0, 0, 0, 0, 0, 0, 0, 0);
        Check.due("worst()", x.worst(), -1);
        Check.dueDouble("mean()", x.mean(), 0.0);
        for (int kind = 0; kind < 5; kind++) {
            Check.due("lacks(" + kind + ")", x.lacks(kind), 0);
        }
        for (int what = 4; what <= 7; what++) {
            Check.due("foresee(60, " + what + ")", x.foresee(60, what), 0);
        }
        Check.due("pass(60)", x.pass(60), 0);
        Check.dueThrow(x, INDEX, "doll(0, 0)", () -> x.doll(0, 0));
        Check.due("make()", x.make(), 0);
        Check.due("the first pose", Citadels.poseOf(x, 0), 0);
    }

    // "Returns the number of a new doll."; "if there are 8"
    static void promise02_the8thIsMadeAndNoOther() {
        DollCitadel x = Citadels.withDolls(7);
        Check.due("the 8th", x.make(), 7);
        Check.dueThrow(x, STATE, "the 9th", () -> x.make());
        Check.dueThrow(x, STATE, "the 9th again", () -> x.make());
        Check.dueDoll(x, 7, 1, 1, 0, 0, 0, 0, 0, 0);
        Check.due("count(1)", x.count(1), 8);
    }

    // "if an angle is not 0 to 90"
    static void promise03_eachAngle0And90() {
        for (int joint : Citadels.ALL_JOINTS) {
            DollCitadel x = Citadels.withDolls(1);
            Check.due("90 at " + joint, Citadels.poseOf(x, 90, joint), 0);
            Check.due("0 at " + joint, Citadels.poseOf(x, 0, joint), 1);
            x.take(0, 0);
            Check.dueJoint(x, 0, joint, 90, 10, 0);
            x.take(0, 1);
            Check.dueJoint(x, 0, joint, 0, 20, 0);
        }
    }

    // "if there are 8"
    static void promise03_the8thPoseIsToldAndNoOther() {
        DollCitadel x = Citadels.withDolls(1);
        for (int i = 0; i < 8; i++) {
            Check.due("pose", x.pose(i, 10 + i, 20 + i, 30 + i, 40 + i, 50 + i), i);
        }
        Check.dueThrow(x, STATE, "the 9th", () -> x.pose(0, 0, 0, 0, 0, 0));
        x.take(0, 7);
        for (int joint : Citadels.ALL_JOINTS) {
            Check.due("joint(0, " + joint + ", 0)", x.joint(0, joint, 0), 10 * joint + 7);
        }
    }

    // "Returns how many joints break by it."
    static void promise04_from0To6JointsBreak() {
        int[][] joints = {{}, {5}, {0, 5}, {1, 2, 3}, {0, 1, 3, 4}, {1, 2, 3, 4, 5}, {0, 1, 2, 3, 4, 5}};
        for (int[] worn : joints) {
            DollCitadel x = Citadels.worn(90, worn);
            int all = Citadels.poseOf(x, 90, Citadels.ALL_JOINTS);
            Check.due("take", x.take(0, all), worn.length);
            Check.due("count(4)", x.count(4), worn.length);
        }
    }

    static void promise04_whatIsBrokenBreaksNoMore() {
        DollCitadel x = Citadels.worn(100, 0, 1, 2, 3, 4);
        Check.due("take of what moves none", x.take(0, Citadels.REST), 0);
        int waist = Citadels.poseOf(x, 90, 5);
        Check.due("take of the waist", x.take(0, waist), 0);
        Check.due("count(4)", x.count(4), 5);
    }

    static void promise04_theFirstAndTheLastDollAndPose() {
        DollCitadel x = Citadels.withDolls(8);
        for (int i = 0; i < 8; i++) {
            Citadels.poseOf(x, 10 + i, 0);
        }
        x.take(0, 7);
        x.take(7, 0);
        Check.due("joint(0, 0, 0)", x.joint(0, 0, 0), 17);
        Check.due("joint(7, 0, 0)", x.joint(7, 0, 0), 10);
        Check.dueThrow(x, INDEX, "take(8, 0)", () -> x.take(8, 0));
        Check.dueThrow(x, INDEX, "take(0, 8)", () -> x.take(0, 8));
    }

    // "if it is stuck": a mended eye is not
    static void promise05_aStuckEyeBlinksWithoutItsDust() {
        for (int eye = 0; eye <= 1; eye++) {
            int stuck = eye;
            DollCitadel x = Citadels.withDolls(1);
            x.pass(9);
            Check.dueThrow(x, STATE, "blink with 9", () -> x.blink(0, stuck));
            x.bring(3, 1);
            x.mend(0, 3, 0);
            Check.dueTrue("blink with 0 closes", !x.blink(0, stuck));
        }
    }

    static void promise05_eachEyeOfTheFirstAndTheLastDoll() {
        DollCitadel x = Citadels.withDolls(8);
        for (int doll = 0; doll <= 7; doll += 7) {
            for (int eye = 0; eye <= 1; eye++) {
                Check.dueTrue("it closes", !x.blink(doll, eye));
                Check.due("doll", x.doll(doll, eye), 0);
                Check.dueTrue("it opens", x.blink(doll, eye));
                Check.due("doll", x.doll(doll, eye), 1);
            }
        }
    }

    // "if weight is not 1 to 9, or pins is not 0 to 12"
    static void promise06_eachWeightAndEachNumberOfPinsThatIsAllowed() {
        for (int weight = 1; weight <= 9; weight++) {
            for (int pins = weight; pins <= 12; pins++) {
                DollCitadel x = withPins(12);
                Check.due("dress(0, " + weight + ", " + pins + ")", x.dress(0, weight, pins), 12 - pins);
                Check.due("doll(0, 5)", x.doll(0, 5), weight);
                Check.due("doll(0, 6)", x.doll(0, 6), pins);
            }
        }
    }

    // "if pins is less than weight"
    static void promise06_asManyPinsAsTheWeightAndOneLess() {
        for (int weight = 1; weight <= 9; weight++) {
            int asked = weight;
            DollCitadel x = withPins(12);
            Check.dueThrow(x, STATE, "one less than " + weight, () -> x.dress(0, asked, asked - 1));
            Check.due("as many as " + weight, x.dress(0, weight, weight), 12 - weight);
        }
    }

    // "or there are not so many in store"
    static void promise06_asManyPinsAsInStoreAndOneLess() {
        for (int pins = 1; pins <= 12; pins++) {
            int asked = pins;
            DollCitadel x = Citadels.withDolls(1);
            if (pins > 1) {
                x.bring(2, pins - 1);
            }
            Check.dueThrow(x, STATE, "one less in store than " + pins, () -> x.dress(0, 1, asked));
            x.bring(2, 1);
            Check.due("as many as " + pins, x.dress(0, 1, pins), 0);
        }
    }

    // "(without those of the old dress)"
    static void promise06_theOldPinsAreNotInStoreYet() {
        DollCitadel x = withPins(12);
        x.dress(0, 1, 12);
        Check.dueThrow(x, STATE, "with 0 in store", () -> x.dress(0, 1, 1));
        x.bring(2, 3);
        Check.dueThrow(x, STATE, "4 with 3 in store", () -> x.dress(0, 1, 4));
        Check.due("3 with 3 in store", x.dress(0, 1, 3), 12);
    }

    // "its pins come into the store (at most 99)", behind those that left it
    static void promise06_theStoreTakesAtMost99OldPins() {
        int[][] oldNewWant = {{12, 12, 99}, {12, 11, 99}, {11, 12, 98}, {1, 1, 99}, {1, 2, 98}, {12, 1, 99}, {1, 12, 88}};
        for (int[] row : oldNewWant) {
            DollCitadel x = withPins(12);
            x.dress(0, 1, row[0]);
            x.bring(2, 99);
            Check.due("dress(0, 1, " + row[1] + ") over " + row[0], x.dress(0, 1, row[1]), row[2]);
            Check.due("count(10)", x.count(10), row[2]);
            Check.due("doll(0, 6)", x.doll(0, 6), row[1]);
        }
    }

    static void promise06_aFallenDressGivesNoPinsBack() {
        DollCitadel x = Citadels.worn(50, 5);
        x.bring(2, 12);
        x.dress(0, 5, 5);
        Check.due("pass(1)", x.pass(1), 1);
        Check.due("dress(0, 1, 2)", x.dress(0, 1, 2), 5);
    }
}
