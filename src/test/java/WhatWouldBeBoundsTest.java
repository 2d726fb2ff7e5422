import java.math.BigInteger;
import java.util.ArrayList;
import java.util.List;

/** Promises 13 to 21, a test for each sentence that names a bound; what is refused stands in RefusalsTest too. */
public final class WhatWouldBeBoundsTest {
    private static final Class<IndexOutOfBoundsException> INDEX = IndexOutOfBoundsException.class;
    private static final Class<IllegalArgumentException> ARGUMENT = IllegalArgumentException.class;

    public static void main(String[] args) {
        Check.runAll(WhatWouldBeBoundsTest.class);
    }

    // "how much more wear there would be, of all joints added"
    static void promise13_fromNoJointToAll() {
        DollCitadel x = Citadels.withDolls(8);
        for (int many = 0; many <= 6; many++) {
            int[] joints = java.util.Arrays.copyOf(Citadels.ALL_JOINTS, many);
            int pose = Citadels.poseOf(x, 90, joints);
            Check.due("costs of " + many, x.costs(0, pose), 10 * many);
            Check.due("costs of " + many + ", the last doll", x.costs(7, pose), 10 * many);
        }
    }

    // "(no joint more than 100)"
    static void promise13_noJointGoesOver100() {
        for (int wear = 85; wear <= 99; wear++) {
            DollCitadel x = Citadels.worn(wear, Citadels.ALL_JOINTS);
            Check.due("costs with " + wear, x.costs(0, Citadels.FAR), 6 * Math.min(10, 100 - wear));
        }
    }

    static void promise13_noLacqueredJointGoesOver100() {
        for (int wear = 94; wear <= 99; wear++) {
            DollCitadel x = Citadels.worn(wear, 2, 3);
            x.bring(1, 1);
            x.mend(0, 1, 2);
            Check.due("costs with " + wear, x.costs(0, Citadels.FAR), Math.min(4, 100 - wear) + Math.min(10, 100 - wear));
        }
    }

    // "-1 if it cannot": with 100, not with 99
    static void promise13_minus1WithABrokenJointThatWouldTurn() {
        for (int joint : Citadels.ALL_JOINTS) {
            DollCitadel x = Citadels.worn(100, joint);
            int by1 = Citadels.poseOf(x, 1, joint);
            int all = Citadels.poseOf(x, 90, Citadels.ALL_JOINTS);
            Check.due("costs by 1", x.costs(0, by1), -1);
            Check.due("costs of all", x.costs(0, all), -1);
            Check.due("costs of none", x.costs(0, Citadels.REST), 0);
            Check.due("costs with 99", Citadels.worn(99, joint).costs(0, Citadels.FAR), 1);
        }
    }

    static void promise13_0WithoutATurnOrWithAShortLacqueredOne() {
        DollCitadel x = Citadels.bench(0);
        Check.due("costs of no turn", x.costs(0, Citadels.REST), 0);
        Check.due("costs of 9", x.costs(0, Citadels.NEAR), 1);
        x.bring(1, 1);
        x.mend(0, 1, 0);
        int by19 = Citadels.poseOf(x, 19, 0);
        int by20 = Citadels.poseOf(x, 20, 0);
        Check.due("costs of 19", x.costs(0, by19), 0);
        Check.due("costs of 20", x.costs(0, by20), 1);
    }

    // "till it cannot take it": 0 with 100, 1 with 98 by one degree to and fro, and so on
    static void promise14_from0TimesTo50() {
        for (int wear = 2; wear <= 100; wear += 2) {
            DollCitadel x = Citadels.worn(wear, 4);
            int by1 = Citadels.poseOf(x, 1, 4);
            Check.due("often with " + wear, x.often(0, by1), (100 - wear) / 2);
        }
    }

    // "at most 50"
    static void promise14_notMoreThan50() {
        DollCitadel x = Citadels.bench(0);
        int by1 = Citadels.poseOf(x, 1, 0);
        Check.due("often, just 50", x.often(0, by1), 50);
        Check.due("often of no turn", x.often(0, Citadels.REST), 50);
        x.bring(1, 1);
        x.mend(0, 1, 0);
        Check.due("often, 60 but for the bound", x.often(0, by1), 50);
    }

    // "all its joints turn back to 0, as far as they are not broken"
    static void promise14_aBrokenJointStaysWhereItIs() {
        DollCitadel x = Citadels.worn(99, 0);
        x.take(0, Citadels.NEAR);
        int withIt = x.pose(9, 90, 0, 0, 0, 0);
        Check.due("often of another joint", x.often(0, withIt), 5);
        Check.due("often of itself", x.often(0, Citadels.REST), 0);
        Check.due("often of where it is", x.often(0, Citadels.NEAR), 50);
    }

    static void promise14_aJointThatBreaksInThePoseNeedsNotTurnAgain() {
        DollCitadel x = Citadels.worn(99, 0);
        Check.due("often, broken by the pose", x.often(0, Citadels.FAR), 50);
        DollCitadel y = Citadels.worn(98, 0);
        Check.due("often, broken on the way back", y.often(0, Citadels.NEAR), 1);
    }

    static void promise14_eachJointTurnsBack() {
        for (int joint : Citadels.ALL_JOINTS) {
            DollCitadel x = Citadels.bench(joint);
            Check.due("often of " + joint, x.often(1, Citadels.FAR), 5);
        }
    }

    // "0 joints with a wear of 50 or more"
    static void promise15_aJointWith50NotWith49() {
        int[] wears = {0, 48, 49, 50, 51, 99, 100};
        for (int wear : wears) {
            for (int joint : Citadels.ALL_JOINTS) {
                DollCitadel x = Citadels.worn(wear, joint);
                Check.due("needs(0, 0) with " + wear, x.needs(0, 0), wear >= 50 ? 1 : 0);
            }
            DollCitadel y = Citadels.worn(wear, Citadels.ALL_JOINTS);
            Check.due("needs(0, 0) with all " + wear, y.needs(0, 0), wear >= 50 ? 6 : 0);
        }
    }

    // "1 joints without lacquer": with 0, not with 1
    static void promise15_aJointWithout1Lacquer() {
        DollCitadel x = Citadels.bench(0);
        x.bring(1, 6);
        for (int joint : Citadels.ALL_JOINTS) {
            Check.due("needs(0, 1)", x.needs(0, 1), 6 - joint);
            x.mend(0, 1, joint);
        }
        Check.due("needs(0, 1) with all", x.needs(0, 1), 0);
        for (int i = 0; i < 19; i++) {
            x.take(0, i % 2 == 0 ? Citadels.NEAR : Citadels.REST);
        }
        Check.due("joint(0, 0, 2)", x.joint(0, 0, 2), 1);
        Check.due("needs(0, 1) with 1", x.needs(0, 1), 0);
        x.take(0, Citadels.REST);
        Check.due("needs(0, 1) with 0", x.needs(0, 1), 1);
    }

    // "2 pins up to 12, if a dress is worn"
    static void promise15_pinsFrom1To12AndWithoutADress() {
        DollCitadel x = Citadels.withDolls(2);
        x.bring(2, 99);
        Check.due("needs(0, 2) without a dress", x.needs(0, 2), 0);
        for (int pins = 1; pins <= 12; pins++) {
            x.dress(0, 1, pins);
            Check.due("needs(0, 2) with " + pins, x.needs(0, 2), 12 - pins);
        }
        Check.due("needs(1, 2)", x.needs(1, 2), 0);
    }

    // "3 1, if an eye has a dust of 5 or more"
    static void promise15_aClothWith5NotWith4() {
        for (int eye = -1; eye <= 1; eye++) {
            for (int days = 1; days <= 10; days++) {
                DollCitadel x = Citadels.withDolls(1);
                if (eye >= 0) {
                    x.blink(0, eye);
                }
                x.pass(days);
                Check.due("needs(0, 3), closed " + eye + ", on " + days, x.needs(0, 3), days >= 5 ? 1 : 0);
            }
        }
    }

    // "4 1, if there is no wig, or it is eaten by 5 or more"
    static void promise15_aWigWith5NotWith4AndWithout() {
        DollCitadel x = Citadels.withDolls(1);
        for (int days = 0; days <= 11; days++) {
            Check.due("needs(0, 4) on " + days, x.needs(0, 4), days >= 5 ? 1 : 0);
            x.pass(1);
        }
        Check.due("doll(0, 4)", x.doll(0, 4), -1);
    }

    static void promise15_eachKindOfTheFirstAndTheLastDoll() {
        DollCitadel x = Citadels.full();
        int[] want = {6, 6, 0, 1, 1};
        for (int kind = 0; kind <= 4; kind++) {
            Check.due("needs(0, " + kind + ")", x.needs(0, kind), want[kind]);
            Check.due("needs(7, " + kind + ")", x.needs(7, kind), want[kind]);
        }
        Check.dueThrow(x, ARGUMENT, "needs(0, -1)", () -> x.needs(0, -1));
        Check.dueThrow(x, ARGUMENT, "needs(7, 5)", () -> x.needs(7, 5));
        Check.dueThrow(x, INDEX, "needs(-1, 0)", () -> x.needs(-1, 0));
        Check.dueThrow(x, INDEX, "needs(8, 4)", () -> x.needs(8, 4));
    }

    /** 8 dolls that need as much as there can be, and nothing in store. */
    private static DollCitadel needy() {
        DollCitadel x = Citadels.withDolls(8);
        Citadels.poseOf(x, 0);
        Citadels.poseOf(x, 90, Citadels.ALL_JOINTS);
        for (int doll = 0; doll < 8; doll++) {
            Citadels.takeAll(x, doll, 1, 0, 1, 0, 1);
        }
        x.pass(10);
        x.bring(2, 8);
        for (int doll = 0; doll < 8; doll++) {
            x.dress(doll, 1, 1);
        }
        return x;
    }

    // "how many more all dolls need than are in store; 0 if there are enough"
    static void promise16_oneTooFewJustEnoughAndOneTooMany() {
        int[] need = {48, 48, 88, 8, 8};
        for (int kind = 0; kind <= 4; kind++) {
            DollCitadel x = needy();
            Check.due("lacks(" + kind + ") with none", x.lacks(kind), need[kind]);
            x.bring(kind, 1);
            Check.due("lacks(" + kind + ") with one", x.lacks(kind), need[kind] - 1);
            x.bring(kind, need[kind] - 2);
            Check.due("lacks(" + kind + ") with one too few", x.lacks(kind), 1);
            x.bring(kind, 1);
            Check.due("lacks(" + kind + ") with enough", x.lacks(kind), 0);
            x.bring(kind, 1);
            Check.due("lacks(" + kind + ") with one too many", x.lacks(kind), 0);
            x.bring(kind, 99);
            Check.due("lacks(" + kind + ") with 99", x.lacks(kind), 0);
        }
    }

    static void promise16_withoutDollsNothingIsLacked() {
        for (int kind = 0; kind <= 4; kind++) {
            DollCitadel x = new DollCitadel();
            Check.due("lacks(" + kind + ")", x.lacks(kind), 0);
            x.bring(kind, 99);
            Check.due("lacks(" + kind + ") with 99", x.lacks(kind), 0);
        }
    }

    static void promise16_0And4AreKindsMinus1And5AreNot() {
        DollCitadel x = Citadels.withDolls(1);
        Check.due("lacks(0)", x.lacks(0), 0);
        Check.due("lacks(4)", x.lacks(4), 0);
        Check.dueThrow(x, ARGUMENT, "lacks(-1)", () -> x.lacks(-1));
        Check.dueThrow(x, ARGUMENT, "lacks(5)", () -> x.lacks(5));
    }

    /** Dolls that need nothing. */
    private static DollCitadel contented(int dolls) {
        DollCitadel x = Citadels.withDolls(dolls);
        x.bring(1, 6 * dolls);
        for (int doll = 0; doll < dolls; doll++) {
            for (int joint : Citadels.ALL_JOINTS) {
                x.mend(doll, 1, joint);
            }
        }
        Check.due("worst() of contented ones", x.worst(), -1);
        return x;
    }

    // "-1 if none needs anything": and each doll that needs just one pin is the worst
    static void promise17_oneNeedIsEnough() {
        for (int doll = 0; doll < 8; doll++) {
            DollCitadel x = contented(8);
            x.bring(2, 30);
            x.dress(doll, 1, 12);
            Check.due("worst() with 12 pins", x.worst(), -1);
            x.dress(doll, 1, 11);
            Check.due("worst() with 11 pins", x.worst(), doll);
        }
    }

    // "of several the one with the smallest number"
    static void promise17_theFirstOfEqualOnes() {
        DollCitadel x = contented(3);
        x.bring(2, 99);
        x.dress(2, 1, 10);
        x.dress(1, 1, 10);
        Check.due("worst() of 1 and 2", x.worst(), 1);
        x.dress(0, 1, 11);
        Check.due("worst() with one less of 0", x.worst(), 1);
        x.dress(0, 1, 10);
        Check.due("worst() of all", x.worst(), 0);
        x.dress(2, 1, 9);
        Check.due("worst() with one more of 2", x.worst(), 2);
    }

    static void promise17_eachKindIsAdded() {
        DollCitadel x = Citadels.bench(0);
        x.bring(2, 99);
        x.bring(0, 1);
        x.bring(3, 1);
        x.bring(4, 1);
        Check.due("worst() by 6 and 6 joints without lacquer", x.worst(), 0);
        Citadels.wear(x, 1, 50);
        Check.due("worst() by a joint", x.worst(), 1);
        x.mend(1, 0, 0);
        x.pass(5);
        x.mend(0, 3, 0);
        Check.due("worst() by a cloth", x.worst(), 1);
        x.mend(0, 4, 0);
        x.dress(0, 1, 11);
        Check.due("worst() by cloth and wig, of 1 pin", x.worst(), 1);
        x.dress(0, 1, 10);
        Check.due("worst() by cloth and wig, of 2 pins", x.worst(), 0);
    }

    // "how many, 1 to 60"
    static void promise18_oneDayAnd60() {
        DollCitadel x = Citadels.withDolls(1);
        x.pass(8);
        Check.due("foresee(1, 7)", x.foresee(1, 7), 2);
        Check.due("foresee(1, 5)", x.foresee(1, 5), 1);
        Check.due("foresee(2, 5)", x.foresee(2, 5), 0);
        Check.due("foresee(60, 5)", x.foresee(60, 5), 0);
        Check.due("foresee(60, 7)", x.foresee(60, 7), 2);
        Check.dueThrow(x, ARGUMENT, "foresee(0, 5)", () -> x.foresee(0, 5));
        Check.dueThrow(x, ARGUMENT, "foresee(61, 5)", () -> x.foresee(61, 5));
    }

    // "4 to 7 as count() has it"
    static void promise18_each4To7AndNeither3Nor8() {
        DollCitadel x = Citadels.full();
        Check.due("foresee(1, 4)", x.foresee(1, 4), 48);
        Check.due("foresee(1, 5)", x.foresee(1, 5), 0);
        Check.due("foresee(3, 6)", x.foresee(3, 6), 8);
        Check.due("foresee(4, 6)", x.foresee(4, 6), 0);
        Check.due("foresee(1, 7)", x.foresee(1, 7), 16);
        Check.dueThrow(x, INDEX, "foresee(1, 3)", () -> x.foresee(1, 3));
        Check.dueThrow(x, INDEX, "foresee(1, 8)", () -> x.foresee(1, 8));
    }

    // "Returns this, behind so many days": with the moths and the day of now
    static void promise18_foreseesWithTheMothsOfNow() {
        int[] daysToLose = {0, 10, 5, 4};
        for (int moths = 1; moths <= 3; moths++) {
            DollCitadel x = Citadels.withDolls(8);
            x.setMoths(moths);
            Check.due("one day before", x.foresee(daysToLose[moths] - 1, 5), 8);
            Check.due("on the day", x.foresee(daysToLose[moths], 5), 0);
        }
    }

    // "how many" days, 1 to 60
    static void promise19_oneDayAnd60() {
        DollCitadel x = Citadels.withDolls(1);
        Check.due("pass(1)", x.pass(1), 0);
        Check.due("count(0)", x.count(0), 1);
        Check.due("pass(60)", x.pass(60), 1);
        Check.due("count(0)", x.count(0), 61);
        Check.dueThrow(x, ARGUMENT, "pass(0)", () -> x.pass(0));
        Check.dueThrow(x, ARGUMENT, "pass(61)", () -> x.pass(61));
        Check.due("count(0)", x.count(0), 61);
    }

    static void promise19_eachOf60DaysDries() {
        int[] days = {1, 3, 4, 57, 58, 60};
        int[] want = {19, 19, 18, 1, 0, 0};
        for (int i = 0; i < days.length; i++) {
            DollCitadel x = contented(1);
            x.pass(days[i]);
            Check.due("joint(0, 5, 2) behind " + days[i], x.joint(0, 5, 2), want[i]);
        }
    }

    // "how many wigs and dresses are lost in them": from none to all of 8 dolls
    static void promise19_from0To16AreLost() {
        DollCitadel x = needy();
        x.bring(4, 8);
        for (int doll = 0; doll < 8; doll++) {
            x.mend(doll, 4, 0);
        }
        Check.due("pass(1), with all dresses", x.pass(1), 8);
        Check.due("pass(8)", x.pass(8), 0);
        Check.due("pass(1), with all wigs", x.pass(1), 8);
        Check.due("pass(60)", x.pass(60), 0);
        DollCitadel y = needy();
        y.bring(4, 8);
        for (int doll = 0; doll < 8; doll++) {
            y.mend(doll, 4, 0);
        }
        Check.due("pass(10)", y.pass(10), 16);
    }

    // "the mean wear of all joints of all dolls; 0 if there are none"
    static void promise20_from0To100() {
        Check.dueDouble("mean() without dolls", new DollCitadel().mean(), 0.0);
        DollCitadel posesAlone = new DollCitadel();
        posesAlone.pose(90, 90, 90, 90, 90, 90);
        Check.dueDouble("mean() of poses without dolls", posesAlone.mean(), 0.0);
        Check.dueDouble("mean() without wear", Citadels.withDolls(8).mean(), 0.0);
        Check.dueDouble("mean() of all broken", Citadels.full().mean(), 100.0);
        DollCitadel x = Citadels.withDolls(1);
        for (int dolls = 1; dolls <= 8; dolls++) {
            if (dolls == 1) {
                x.take(0, Citadels.poseOf(x, 1, 5));
            } else {
                x.make();
            }
            Check.dueDouble("mean() of 1 in " + dolls, x.mean(), 1.0 / (6.0 * dolls));
        }
    }

    /** The low 64 bits of the number without any bound. */
    private static long wrapped(List<Integer> numbers) {
        BigInteger d = BigInteger.valueOf(1063);
        for (int number : numbers) {
            d = d.multiply(BigInteger.valueOf(31)).add(BigInteger.valueOf(number));
        }
        Check.dueTrue("it goes beyond 64 bits", d.bitLength() > 64);
        return d.longValue();
    }

    private static void add(List<Integer> numbers, int... more) {
        for (int number : more) {
            numbers.add(number);
        }
    }

    // "which wraps around as a 64-bit integer": already with nothing there, and with all full
    static void promise21_wrapsAroundWithNothingThere() {
        List<Integer> numbers = new ArrayList<>();
        add(numbers, 0, 0, 0, 1, 0, 0, 0, 0, 0, 0, 0, 0, 0);
        Check.due("digest()", new DollCitadel().digest(), wrapped(numbers));
    }

    static void promise21_wrapsAroundWithAllFull() {
        List<Integer> numbers = new ArrayList<>();
        add(numbers, 9, 8, 8, 3, 48, 0, 8, 16, 99, 99, 99, 99, 99);
        for (int pose = 0; pose < 4; pose++) {
            add(numbers, 0, 0, 0, 0, 0, 0, 90, 90, 90, 90, 90, 90);
        }
        for (int doll = 0; doll < 8; doll++) {
            add(numbers, 1, 1, 9, 9, -1, 9, 12, 10);
            for (int joint = 0; joint < 6; joint++) {
                add(numbers, 0, 100, 0, 1);
            }
        }
        Check.due("digest()", Citadels.full().digest(), wrapped(numbers));
    }

    static void promise21_posesWithoutDollsAndDollsWithoutPoses() {
        List<Integer> poses = new ArrayList<>();
        add(poses, 0, 0, 1, 1, 0, 0, 0, 0, 0, 0, 0, 0, 0, 90, 1, 2, 3, 4, 0);
        DollCitadel x = new DollCitadel();
        x.pose(90, 1, 2, 3, 4, 0);
        Check.due("digest() of a pose", x.digest(), wrapped(poses));
        List<Integer> dolls = new ArrayList<>();
        add(dolls, 0, 1, 0, 1, 0, 1, 0, 0, 0, 0, 0, 0, 0, 1, 1, 0, 0, 0, 0, 0, 0);
        add(dolls, new int[24]);
        Check.due("digest() of a doll", Citadels.withDolls(1).digest(), wrapped(dolls));
    }
}
