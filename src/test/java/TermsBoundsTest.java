/** The bounds that 'Terms' names, a test for each sentence: the last value inside and the first outside. */
public final class TermsBoundsTest {
    private static final Class<IndexOutOfBoundsException> INDEX = IndexOutOfBoundsException.class;
    private static final Class<IllegalArgumentException> ARGUMENT = IllegalArgumentException.class;
    private static final Class<IllegalStateException> STATE = IllegalStateException.class;

    public static void main(String[] args) {
        Check.runAll(TermsBoundsTest.class);
    }

    /** A doll whose joint 0 has so much lacquer left of a pot; the poses are those of a bench. */
    private static DollCitadel lacquered(int lacquer) {
        DollCitadel x = Citadels.bench(0);
        x.bring(1, 1);
        x.mend(0, 1, 0);
        // Turns by less than 20 wear nothing with lacquer.
        for (int left = 20; left > lacquer; left--) {
            x.take(0, left % 2 == 0 ? Citadels.NEAR : Citadels.REST);
        }
        Check.due("joint(0, 0, 1)", x.joint(0, 0, 1), 0);
        Check.due("joint(0, 0, 2)", x.joint(0, 0, 2), lacquer);
        return x;
    }

    /** A doll with a wig eaten by so much, by as many moths as are asked for. */
    private static DollCitadel eatenBy(int eaten, int moths) {
        DollCitadel x = Citadels.withDolls(1);
        if (eaten > 0) {
            x.pass(eaten);
        }
        x.setMoths(moths);
        Check.due("doll(0, 4)", x.doll(0, 4), eaten);
        return x;
    }

    /** A doll with an open eye 0 of so much dust, and a closed eye 1 of as much (but one less than 9). */
    private static DollCitadel dusty(int dust) {
        DollCitadel x = Citadels.withDolls(1);
        for (int day = 0; day < dust; day++) {
            if (day == 8) {
                x.blink(0, 1);
            }
            x.pass(1);
        }
        if (dust < 9) {
            x.blink(0, 1);
        }
        return x;
    }

    // "All numbers are whole, and / is cut towards 0."; "with lacquer this is 1 less, and the wear d / 20 more"
    static void terms_wearWithLacquerOfEachTurn() {
        for (int d = 1; d <= 90; d++) {
            DollCitadel x = Citadels.withDolls(1);
            int pose = Citadels.poseOf(x, d, 2);
            x.bring(1, 1);
            x.mend(0, 1, 2);
            x.take(0, pose);
            int wear = d < 20 ? 0 : d < 40 ? 1 : d < 60 ? 2 : d < 80 ? 3 : 4;
            Check.dueJoint(x, 0, 2, d, wear, 19);
        }
    }

    // "without lacquer the wear is d / 10 and 1 more"
    static void terms_wearWithoutLacquerOfEachTurn() {
        int[] byTens = {1, 2, 3, 4, 5, 6, 7, 8, 9, 10};
        for (int d = 1; d <= 90; d++) {
            DollCitadel x = Citadels.withDolls(1);
            int pose = Citadels.poseOf(x, d, 3);
            x.take(0, pose);
            Check.dueJoint(x, 0, 3, d, byTens[d / 10], 0);
        }
    }

    // "As it turns by d degrees, 1 or more": by 0 is no turn, with lacquer and without
    static void terms_aTurnBy0IsNone() {
        DollCitadel x = Citadels.bench(0);
        x.take(0, Citadels.REST);
        Check.dueJoint(x, 0, 0, 0, 0, 0);
        x.take(0, Citadels.FAR);
        x.take(0, Citadels.FAR);
        Check.dueJoint(x, 0, 0, 90, 10, 0);
        DollCitadel y = lacquered(20);
        y.take(0, Citadels.REST);
        Check.dueJoint(y, 0, 0, 0, 0, 20);
    }

    static void terms_aTurnBy1IsOneBothWays() {
        DollCitadel x = Citadels.withDolls(1);
        int one = Citadels.poseOf(x, 1, 0);
        int rest = Citadels.poseOf(x, 0);
        x.take(0, one);
        Check.dueJoint(x, 0, 0, 1, 1, 0);
        x.take(0, rest);
        Check.dueJoint(x, 0, 0, 0, 2, 0);
    }

    // "Time is told in days, from 0."; "Then the day is 1 greater."
    static void terms_theDayIs0AndThen1() {
        DollCitadel x = new DollCitadel();
        Check.due("count(0)", x.count(0), 0);
        x.pass(1);
        Check.due("count(0)", x.count(0), 1);
    }

    // "Dolls. There are at most 8, numbered from 0 in the order of their coming."
    static void terms_atMost8Dolls() {
        DollCitadel x = Citadels.withDolls(7);
        Check.due("the last make()", x.make(), 7);
        Check.dueThrow(x, STATE, "one more make()", () -> x.make());
        Check.due("doll(7, 0)", x.doll(7, 0), 1);
        Check.dueThrow(x, INDEX, "doll(8, 0)", () -> x.doll(8, 0));
    }

    // "Joints. Each doll has 6, 0 to 5"
    static void terms_joints0To5() {
        DollCitadel x = Citadels.withDolls(1);
        Check.dueThrow(x, INDEX, "joint(0, -1, 0)", () -> x.joint(0, -1, 0));
        for (int joint = 0; joint <= 5; joint++) {
            Check.due("joint(0, " + joint + ", 0)", x.joint(0, joint, 0), 0);
        }
        Check.dueThrow(x, INDEX, "joint(0, 6, 0)", () -> x.joint(0, 6, 0));
    }

    // "each has an angle, 0 to 90"
    static void terms_angle0To90() {
        DollCitadel x = Citadels.withDolls(1);
        Citadels.poseOf(x, 90, Citadels.ALL_JOINTS);
        Citadels.poseOf(x, 0);
        Citadels.takeAll(x, 0, 0);
        for (int joint : Citadels.ALL_JOINTS) {
            Check.due("joint(0, " + joint + ", 0)", x.joint(0, joint, 0), 90);
        }
        Citadels.takeAll(x, 0, 1);
        for (int joint : Citadels.ALL_JOINTS) {
            Check.due("joint(0, " + joint + ", 0)", x.joint(0, joint, 0), 0);
            Check.dueThrow(x, ARGUMENT, "91", () -> Citadels.poseOf(x, 91, joint));
            Check.dueThrow(x, ARGUMENT, "-1", () -> Citadels.poseOf(x, -1, joint));
        }
    }

    // "wear, 0 to 100 ... (all 0, at first)"; "(at most 100)", from each wear that is near it
    static void terms_wear0To100() {
        Check.dueJoint(Citadels.bench(0), 0, 0, 0, 0, 0);
        for (int wear = 85; wear <= 99; wear++) {
            DollCitadel x = Citadels.worn(wear, 0);
            Check.dueJoint(x, 0, 0, 0, wear, 0);
            Check.due("take(0, 1) with " + wear, x.take(0, Citadels.FAR), wear >= 90 ? 1 : 0);
            Check.dueJoint(x, 0, 0, 90, wear >= 90 ? 100 : wear + 10, 0);
        }
    }

    static void terms_wearIsAtMost100WithLacquerToo() {
        for (int wear = 94; wear <= 99; wear++) {
            DollCitadel x = Citadels.worn(wear, 0);
            x.bring(1, 1);
            x.mend(0, 1, 0);
            Check.due("take(0, 1) with " + wear, x.take(0, Citadels.FAR), wear >= 96 ? 1 : 0);
            Check.dueJoint(x, 0, 0, 90, wear >= 96 ? 100 : wear + 4, 19);
        }
    }

    // "it is broken with a wear of 100"
    static void terms_brokenWith100NotWith99() {
        DollCitadel x = Citadels.worn(99, 4);
        Check.due("joint(0, 4, 3) with 99", x.joint(0, 4, 3), 0);
        Check.due("count(4) with 99", x.count(4), 0);
        Check.due("it breaks", x.take(0, Citadels.NEAR), 1);
        Check.due("joint(0, 4, 3) with 100", x.joint(0, 4, 3), 1);
        Check.due("count(4) with 100", x.count(4), 1);
    }

    // "lacquer, 0 to 20 (all 0, at first)"
    static void terms_lacquer0To20() {
        DollCitadel x = Citadels.bench(0);
        Check.due("joint(0, 0, 2), new", x.joint(0, 0, 2), 0);
        x.take(0, Citadels.NEAR);
        Check.due("joint(0, 0, 2), turned without", x.joint(0, 0, 2), 0);
        x.bring(1, 3);
        x.mend(0, 1, 0);
        Check.due("joint(0, 0, 2) of one pot", x.joint(0, 0, 2), 20);
        x.mend(0, 1, 0);
        Check.due("joint(0, 0, 2) of two pots", x.joint(0, 0, 2), 20);
        x.take(0, Citadels.REST);
        x.mend(0, 1, 0);
        Check.due("joint(0, 0, 2) of a pot on 19", x.joint(0, 0, 2), 20);
    }

    static void terms_theLast1LacquerIsUsedLikeAllOfIt() {
        DollCitadel x = lacquered(1);
        x.take(0, Citadels.FAR);
        int turned = x.joint(0, 0, 1);
        Check.due("the wear of a turn by 81 with lacquer", turned, 4);
        Check.due("joint(0, 0, 2)", x.joint(0, 0, 2), 0);
        x.take(0, Citadels.REST);
        Check.dueJoint(x, 0, 0, 0, 4 + 10, 0);
    }

    // "Eyes. Each doll has two, 0 and 1; each is open (at first) ... dust, 0 to 9 (0, at first)"
    static void terms_eyes0And1() {
        DollCitadel x = Citadels.withDolls(1);
        Check.dueDoll(x, 0, 1, 1, 0, 0);
        Check.dueThrow(x, INDEX, "blink(0, -1)", () -> x.blink(0, -1));
        Check.dueTrue("blink(0, 0)", !x.blink(0, 0));
        Check.dueTrue("blink(0, 1)", !x.blink(0, 1));
        Check.dueThrow(x, INDEX, "blink(0, 2)", () -> x.blink(0, 2));
    }

    static void terms_dust0To9() {
        DollCitadel x = dusty(8);
        Check.due("doll(0, 2)", x.doll(0, 2), 8);
        x.pass(1);
        Check.due("doll(0, 2)", x.doll(0, 2), 9);
        x.pass(1);
        Check.due("doll(0, 2)", x.doll(0, 2), 9);
    }

    // "with 9 it is stuck"
    static void terms_stuckWith9NotWith8() {
        DollCitadel x = dusty(8);
        Check.due("count(7) with 8", x.count(7), 0);
        Check.dueTrue("blink(0, 0) with 8 closes", !x.blink(0, 0));
        DollCitadel y = dusty(9);
        Check.due("count(7) with 9", y.count(7), 1);
        Check.dueThrow(y, STATE, "blink(0, 0) with 9", () -> y.blink(0, 0));
        Check.dueTrue("the eye 1 with 8 opens", y.blink(0, 1));
    }

    // "Wig. A doll has one (at first), eaten by 0 to 9 (0, at first), or none."
    static void terms_aWigIsEatenBy0To9() {
        Check.due("doll(0, 4), new", eatenBy(0, 1).doll(0, 4), 0);
        DollCitadel x = eatenBy(9, 1);
        Check.due("count(5) with 9", x.count(5), 1);
        x.pass(1);
        Check.due("doll(0, 4) with 10", x.doll(0, 4), -1);
        Check.due("count(5) with 10", x.count(5), 0);
    }

    // "Dress. A doll wears one of a weight, 1 to 9, ... or none (at first)."
    static void terms_aDressHasAWeight1To9() {
        DollCitadel x = Citadels.withDolls(1);
        x.bring(2, 99);
        Check.due("doll(0, 5), new", x.doll(0, 5), 0);
        Check.due("count(6), new", x.count(6), 0);
        Check.dueThrow(x, ARGUMENT, "dress(0, 0, 12)", () -> x.dress(0, 0, 12));
        x.dress(0, 1, 12);
        Check.due("doll(0, 5)", x.doll(0, 5), 1);
        x.dress(0, 9, 12);
        Check.due("doll(0, 5)", x.doll(0, 5), 9);
        Check.dueThrow(x, ARGUMENT, "dress(0, 10, 12)", () -> x.dress(0, 10, 12));
    }

    // "held by 0 to 12 pins"
    static void terms_aDressIsHeldByUpTo12Pins() {
        DollCitadel x = Citadels.withDolls(1);
        x.bring(2, 99);
        Check.due("doll(0, 6), new", x.doll(0, 6), 0);
        Check.dueThrow(x, ARGUMENT, "dress(0, 9, 13)", () -> x.dress(0, 9, 13));
        x.dress(0, 9, 12);
        Check.due("doll(0, 6)", x.doll(0, 6), 12);
        Check.dueThrow(x, STATE, "a 13th pin", () -> x.mend(0, 2, 0));
        Check.dueThrow(x, ARGUMENT, "dress(0, 1, -1)", () -> x.dress(0, 1, -1));
        Check.dueThrow(x, STATE, "dress(0, 1, 0)", () -> x.dress(0, 1, 0));
    }

    // "Poses. There are at most 8, numbered likewise"
    static void terms_atMost8Poses() {
        DollCitadel x = Citadels.withDolls(1);
        for (int i = 0; i < 7; i++) {
            Citadels.poseOf(x, i, 0);
        }
        Check.due("the last pose", Citadels.poseOf(x, 90, 0), 7);
        Check.dueThrow(x, STATE, "one more pose", () -> Citadels.poseOf(x, 0, 0));
        x.take(0, 7);
        Check.due("joint(0, 0, 0)", x.joint(0, 0, 0), 90);
        Check.dueThrow(x, INDEX, "take(0, 8)", () -> x.take(0, 8));
    }

    // "A doll can take a pose, if no joint that would turn is broken"
    static void terms_eachBrokenJointThatWouldTurnHinders() {
        for (int joint : Citadels.ALL_JOINTS) {
            DollCitadel x = Citadels.worn(100, joint);
            int by1 = Citadels.poseOf(x, 1, joint);
            Check.dueThrow(x, STATE, "by 90", () -> x.take(0, Citadels.FAR));
            Check.dueThrow(x, STATE, "by 1", () -> x.take(0, by1));
            Check.due("by 0", x.take(0, Citadels.REST), 0);
            Check.due("with 99", Citadels.worn(99, joint).take(0, Citadels.FAR), 1);
        }
    }

    static void terms_aBrokenJointThatStandsAsThePoseTellsHindersNot() {
        for (int broken : Citadels.ALL_JOINTS) {
            DollCitadel x = Citadels.worn(99, broken);
            x.take(0, Citadels.NEAR);
            int[] a = {9, 9, 9, 9, 9, 9};
            x.pose(a[0], a[1], a[2], a[3], a[4], a[5]);
            int less = Citadels.poseOf(x, 8, broken);
            int more = Citadels.poseOf(x, 10, broken);
            Check.dueThrow(x, STATE, "back by 1", () -> x.take(0, less));
            Check.dueThrow(x, STATE, "on by 1", () -> x.take(0, more));
            Check.due("all to 9", x.take(0, 4), 0);
            for (int joint : Citadels.ALL_JOINTS) {
                Check.dueJoint(x, 0, joint, 9, joint == broken ? 100 : 1, 0);
            }
        }
    }

    // "Store. It has 0 to 99 each ... (none, at first)."
    static void terms_store0To99() {
        DollCitadel x = Citadels.withDolls(1);
        for (int kind = 0; kind < 5; kind++) {
            int used = kind;
            Check.due("count, new", x.count(8 + kind), 0);
            Check.dueThrow(x, STATE, "mend with none", () -> x.mend(0, used, 0));
            Check.due("bring", x.bring(kind, 98), 98);
            Check.due("bring", x.bring(kind, 1), 99);
            Check.due("bring", x.bring(kind, 1), 99);
            Check.due("count, full", x.count(8 + kind), 99);
        }
    }

    // "A wig is eaten by as much more as there are moths (0 to 3; 1, at first); with 10 or more there is none any more."
    static void terms_eachWigWithEachNumberOfMoths() {
        for (int moths = 0; moths <= 3; moths++) {
            for (int eaten = 0; eaten <= 9; eaten++) {
                DollCitadel x = eatenBy(eaten, moths);
                boolean gone = eaten + moths >= 10;
                Check.due("pass(1) with " + eaten + " and " + moths, x.pass(1), gone ? 1 : 0);
                Check.due("doll(0, 4)", x.doll(0, 4), gone ? -1 : eaten + moths);
                Check.due("count(5)", x.count(5), gone ? 0 : 1);
            }
        }
    }

    static void terms_moths0To3And1AtFirst() {
        DollCitadel x = Citadels.withDolls(1);
        Check.due("count(3), new", x.count(3), 1);
        x.pass(1);
        Check.due("doll(0, 4)", x.doll(0, 4), 1);
        Check.dueThrow(x, ARGUMENT, "setMoths(-1)", () -> x.setMoths(-1));
        Check.due("setMoths(0)", x.setMoths(0), 1);
        Check.due("setMoths(3)", x.setMoths(3), 0);
        Check.dueThrow(x, ARGUMENT, "setMoths(4)", () -> x.setMoths(4));
    }

    static void terms_noWigIsEatenNoMore() {
        DollCitadel x = eatenBy(9, 3);
        Check.due("pass(1)", x.pass(1), 1);
        for (int moths = 0; moths <= 3; moths++) {
            x.setMoths(moths);
            Check.due("pass(1) without a wig", x.pass(1), 0);
            Check.due("doll(0, 4)", x.doll(0, 4), -1);
        }
    }

    // "If a dress is worn, and the waist has a wear of 50 or more, there is a pin less"
    static void terms_aPinLessWithAWaistOf50NotOf49() {
        int[] wears = {0, 48, 49, 50, 51, 99, 100};
        for (int wear : wears) {
            DollCitadel x = Citadels.worn(wear, 5);
            x.bring(2, 12);
            x.dress(0, 1, 12);
            Check.due("pass(1)", x.pass(1), 0);
            Check.due("doll(0, 6) with a waist of " + wear, x.doll(0, 6), wear >= 50 ? 11 : 12);
        }
    }

    static void terms_noOtherJointIsTheWaist() {
        DollCitadel x = Citadels.worn(100, 0, 1, 2, 3, 4);
        x.bring(2, 1);
        x.dress(0, 1, 1);
        x.pass(60);
        Check.due("doll(0, 6)", x.doll(0, 6), 1);
    }

    static void terms_withoutADressThereIsNoPinLess() {
        DollCitadel x = Citadels.worn(50, 5);
        Check.due("pass(1)", x.pass(1), 0);
        Check.dueDoll(x, 0, 1, 1, 1, 1, 1, 0, 0);
    }

    // "(at least 0); a dress with fewer pins than its weight falls off, with all its pins"
    static void terms_eachDressFallsWithFewerPinsThanItsWeight() {
        for (int weight = 1; weight <= 9; weight++) {
            for (int pins = weight; pins <= 12; pins++) {
                DollCitadel x = Citadels.worn(50, 5);
                x.bring(2, 12);
                int left = x.dress(0, weight, pins);
                boolean falls = pins - 1 < weight;
                Check.due("pass(1) with " + pins + " for " + weight, x.pass(1), falls ? 1 : 0);
                Check.due("doll(0, 5)", x.doll(0, 5), falls ? 0 : weight);
                Check.due("doll(0, 6)", x.doll(0, 6), falls ? 0 : pins - 1);
                Check.due("count(6)", x.count(6), falls ? 0 : 1);
                Check.due("count(10)", x.count(10), left);
            }
        }
    }

    static void terms_aDressWithAsManyPinsAsItsWeightStays() {
        DollCitadel x = Citadels.worn(49, 5);
        x.bring(2, 99);
        for (int weight = 1; weight <= 9; weight++) {
            x.dress(0, weight, weight);
            Check.due("pass(1)", x.pass(1), 0);
            Check.due("doll(0, 5)", x.doll(0, 5), weight);
            Check.due("doll(0, 6)", x.doll(0, 6), weight);
        }
    }

    // "On days that can be divided by 3 each joint has 1 less lacquer (at least 0)."
    static void terms_lacquerDriesOnTheDays0And3AndNotBetween() {
        for (int day = 0; day <= 7; day++) {
            DollCitadel x = Citadels.withDolls(1);
            if (day > 0) {
                x.pass(day);
            }
            x.bring(1, 6);
            for (int joint : Citadels.ALL_JOINTS) {
                x.mend(0, 1, joint);
            }
            x.pass(1);
            int want = day == 0 || day == 3 || day == 6 ? 19 : 20;
            for (int joint : Citadels.ALL_JOINTS) {
                Check.due("joint(0, " + joint + ", 2) on " + day, x.joint(0, joint, 2), want);
            }
        }
    }

    static void terms_lacquerDriesFrom1To0AndNoLower() {
        DollCitadel x = lacquered(1);
        x.pass(1);
        Check.due("joint(0, 0, 2)", x.joint(0, 0, 2), 0);
        x.pass(3);
        Check.due("joint(0, 0, 2)", x.joint(0, 0, 2), 0);
    }

    // "An open eye has 1 more dust (at most 9)."
    static void terms_onlyAnOpenEyeGathersDust() {
        for (int dust = 0; dust <= 9; dust++) {
            DollCitadel x = dusty(dust);
            int closed = Math.min(8, dust);
            Check.dueDoll(x, 0, 1, 0, dust, closed);
            x.pass(1);
            Check.dueDoll(x, 0, 1, 0, Math.min(9, dust + 1), closed);
        }
    }

    // "A day goes like this, doll by doll"
    static void terms_aDayGoesForEachOf8Dolls() {
        DollCitadel x = Citadels.withDolls(8);
        x.bring(1, 8);
        for (int doll = 0; doll < 8; doll++) {
            x.mend(doll, 1, 0);
        }
        x.pass(1);
        for (int doll = 0; doll < 8; doll++) {
            Check.dueDoll(x, doll, 1, 1, 1, 1, 1, 0, 0, 0);
            Check.dueJoint(x, doll, 0, 0, 0, 19);
        }
        Check.due("count(0)", x.count(0), 1);
    }
}
