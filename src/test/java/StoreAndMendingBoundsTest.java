/** Promises 7 to 9, a test for each sentence that names a bound; what is refused stands in RefusalsTest too. */
public final class StoreAndMendingBoundsTest {
    private static final Class<IndexOutOfBoundsException> INDEX = IndexOutOfBoundsException.class;
    private static final Class<IllegalArgumentException> ARGUMENT = IllegalArgumentException.class;
    private static final Class<IllegalStateException> STATE = IllegalStateException.class;

    public static void main(String[] args) {
        Check.runAll(StoreAndMendingBoundsTest.class);
    }

    /** A doll, dressed with so many pins, and this many of each kind in store then. */
    private static DollCitadel stocked(int pins, int many) {
        DollCitadel x = Citadels.withDolls(1);
        x.bring(2, pins);
        x.dress(0, 1, pins);
        for (int kind = 0; kind < 5; kind++) {
            x.bring(kind, many);
        }
        return x;
    }

    // "Throws IllegalArgumentException if kind is not 0 to 4, or many is not 1 to 99"
    static void promise07_eachKindWith1AndWith99() {
        for (int kind = 0; kind <= 4; kind++) {
            DollCitadel x = new DollCitadel();
            Check.due("bring(" + kind + ", 1)", x.bring(kind, 1), 1);
            DollCitadel y = new DollCitadel();
            Check.due("bring(" + kind + ", 99)", y.bring(kind, 99), 99);
            for (int other = 0; other <= 4; other++) {
                Check.due("count of " + other, y.count(8 + other), other == kind ? 99 : 0);
            }
        }
    }

    // "Returns how many there are then, at most 99."
    static void promise07_theStoreIsFullWith99() {
        int[][] firstMoreWant = {{1, 97, 98}, {1, 98, 99}, {1, 99, 99}, {2, 98, 99}, {98, 1, 99}, {98, 2, 99},
            {99, 1, 99}, {99, 99, 99}, {50, 49, 99}, {50, 50, 99}};
        for (int kind = 0; kind <= 4; kind++) {
            for (int[] row : firstMoreWant) {
                DollCitadel x = new DollCitadel();
                x.bring(kind, row[0]);
                Check.due("bring(" + kind + ", " + row[1] + ") to " + row[0], x.bring(kind, row[1]), row[2]);
                Check.due("count", x.count(8 + kind), row[2]);
            }
        }
    }

    // "Throws IllegalArgumentException if moths is not 0 to 3"; "Returns those before."
    static void promise08_eachNumberOfMoths() {
        DollCitadel x = new DollCitadel();
        int before = 1;
        for (int moths = 0; moths <= 3; moths++) {
            Check.due("setMoths(" + moths + ")", x.setMoths(moths), before);
            Check.due("count(3)", x.count(3), moths);
            Check.due("setMoths(" + moths + ") again", x.setMoths(moths), moths);
            before = moths;
        }
        Check.dueThrow(x, ARGUMENT, "setMoths(4)", () -> x.setMoths(4));
        Check.dueThrow(x, ARGUMENT, "setMoths(-1)", () -> x.setMoths(-1));
        Check.due("count(3)", x.count(3), 3);
    }

    // "Throws IndexOutOfBoundsException if ... place is not 0 to 5": "the joint at this place"
    static void promise09_eachPlaceForAJointAndForAPot() {
        for (int place = 0; place <= 5; place++) {
            DollCitadel x = Citadels.worn(20, Citadels.ALL_JOINTS);
            x.bring(0, 1);
            x.bring(1, 2);
            Check.due("mend(0, 1, " + place + ")", x.mend(0, 1, place), 1);
            for (int joint : Citadels.ALL_JOINTS) {
                Check.dueJoint(x, 0, joint, 0, 20, joint == place ? 20 : 0);
            }
            Check.due("mend(0, 0, " + place + ")", x.mend(0, 0, place), 0);
            for (int joint : Citadels.ALL_JOINTS) {
                Check.dueJoint(x, 0, joint, 0, joint == place ? 0 : 20, 0);
            }
        }
    }

    // "(place does not matter)", "(nor does it here)", "(nor here)", from 0 to 5
    static void promise09_anyPlaceForAPinAClothAndAWig() {
        for (int place = 0; place <= 5; place++) {
            DollCitadel x = stocked(11, 1);
            x.pass(9);
            Check.dueDoll(x, 0, 1, 1, 9, 9, 9, 1, 11);
            Check.due("mend(0, 2, " + place + ")", x.mend(0, 2, place), 0);
            Check.due("mend(0, 3, " + place + ")", x.mend(0, 3, place), 0);
            Check.due("mend(0, 4, " + place + ")", x.mend(0, 4, place), 0);
            Check.dueDoll(x, 0, 1, 1, 0, 0, 0, 1, 12);
        }
    }

    static void promise09_noPlaceAtMinus1AndAt6() {
        for (int kind = 0; kind <= 4; kind++) {
            int used = kind;
            DollCitadel x = stocked(11, 1);
            Check.dueThrow(x, INDEX, "mend(0, " + kind + ", -1)", () -> x.mend(0, used, -1));
            Check.dueThrow(x, INDEX, "mend(0, " + kind + ", 6)", () -> x.mend(0, used, 6));
        }
    }

    // "with one out of the store, whether it is needed or not"
    static void promise09_nothingIsNeeded() {
        DollCitadel x = stocked(11, 99);
        x.mend(0, 1, 2);
        for (int kind = 0; kind <= 4; kind++) {
            int before = x.count(8 + kind);
            Check.due("mend(0, " + kind + ", 2)", x.mend(0, kind, 2), before - 1);
            Check.due("count", x.count(8 + kind), before - 1);
        }
        // The new joint took the lacquer with it; the pot behind it gave it back.
        Check.dueJoint(x, 0, 2, 0, 0, 20);
        Check.dueDoll(x, 0, 1, 1, 0, 0, 0, 1, 12);
    }

    // "the joint at this place has no wear and no lacquer then": broken, or with 20 lacquer
    static void promise09_aJointOfAnyWearAndLacquer() {
        int[] wears = {0, 2, 50, 99, 100};
        for (int wear : wears) {
            DollCitadel x = Citadels.worn(wear, 3);
            x.bring(0, 1);
            x.bring(1, 1);
            x.mend(0, 1, 3);
            Check.dueJoint(x, 0, 3, 0, wear, 20);
            x.mend(0, 0, 3);
            Check.dueJoint(x, 0, 3, 0, 0, 0);
            Check.due("take", x.take(0, Citadels.FAR), 0);
        }
    }

    static void promise09_aBrokenJointKeepsItsAngle() {
        DollCitadel x = Citadels.worn(90, 3);
        Check.due("it breaks", x.take(0, Citadels.FAR), 1);
        x.bring(0, 1);
        x.mend(0, 0, 3);
        Check.dueJoint(x, 0, 3, 90, 0, 0);
    }

    // "both eyes have no dust": with 0, with 9, and closed
    static void promise09_aClothForEachDust() {
        for (int dust = 0; dust <= 9; dust++) {
            DollCitadel x = Citadels.withDolls(1);
            x.bring(3, 1);
            for (int day = 0; day < dust; day++) {
                x.pass(1);
            }
            if (dust < 9) {
                x.blink(0, 0);
            }
            x.mend(0, 3, 0);
            Check.dueDoll(x, 0, dust < 9 ? 0 : 1, 1, 0, 0);
            Check.due("count(7)", x.count(7), 0);
        }
    }

    // "a new one, which is not eaten": for a wig eaten by 0 to 9, and for none
    static void promise09_aWigForEachWig() {
        for (int days = 0; days <= 11; days++) {
            DollCitadel x = Citadels.withDolls(1);
            x.bring(4, 1);
            for (int day = 0; day < days; day++) {
                x.pass(1);
            }
            Check.due("doll(0, 4)", x.doll(0, 4), days <= 9 ? days : -1);
            Check.due("mend(0, 4, 0)", x.mend(0, 4, 0), 0);
            Check.due("doll(0, 4)", x.doll(0, 4), 0);
            Check.due("count(5)", x.count(5), 1);
        }
    }

    // "if there is none in store"
    static void promise09_theLastOfEachKindAndNoOther() {
        for (int kind = 0; kind <= 4; kind++) {
            int used = kind;
            DollCitadel x = stocked(2, 1);
            Check.due("the last of " + kind, x.mend(0, kind, 0), 0);
            Check.dueThrow(x, STATE, "none of " + kind, () -> x.mend(0, used, 0));
            x.bring(kind, 1);
            Check.due("one more of " + kind, x.mend(0, kind, 0), 0);
        }
    }

    static void promise09_eachOf99IsUsed() {
        for (int kind = 0; kind <= 4; kind++) {
            if (kind != 2) {
                DollCitadel x = Citadels.withDolls(1);
                x.bring(kind, 99);
                for (int left = 98; left >= 0; left--) {
                    Check.due("mend(0, " + kind + ", 0)", x.mend(0, kind, 0), left);
                }
            }
        }
    }

    // "or, for a pin, there is no dress"
    static void promise09_aPinForADressOnly() {
        DollCitadel x = Citadels.worn(50, 5);
        x.bring(2, 9);
        Check.dueThrow(x, STATE, "before any dress", () -> x.mend(0, 2, 0));
        x.dress(0, 1, 1);
        Check.due("for a dress", x.mend(0, 2, 0), 7);
        Check.due("doll(0, 6)", x.doll(0, 6), 2);
        Check.dueThrow(x, STATE, "for one without", () -> x.mend(1, 2, 0));
        Check.due("pass(2)", x.pass(2), 1);
        Check.dueThrow(x, STATE, "behind the dress", () -> x.mend(0, 2, 0));
    }

    // "or 12 pins are in it"
    static void promise09_the12thPinAndNoOther() {
        for (int pins = 9; pins <= 12; pins++) {
            DollCitadel x = stocked(pins, 20);
            for (int in = pins; in < 12; in++) {
                x.mend(0, 2, 0);
                Check.due("doll(0, 6)", x.doll(0, 6), in + 1);
            }
            Check.dueThrow(x, STATE, "the 13th", () -> x.mend(0, 2, 0));
        }
    }

    static void promise09_12PinsHinderNoOtherKind() {
        DollCitadel x = stocked(12, 1);
        for (int kind = 0; kind <= 4; kind++) {
            if (kind != 2) {
                Check.due("mend(0, " + kind + ", 0)", x.mend(0, kind, 0), 0);
            }
        }
    }

    static void promise09_theFirstAndTheLastDollAndKind() {
        DollCitadel x = Citadels.withDolls(8);
        Citadels.fillStore(x);
        Check.due("mend(0, 0, 0)", x.mend(0, 0, 0), 98);
        Check.due("mend(7, 4, 5)", x.mend(7, 4, 5), 98);
        Check.dueThrow(x, INDEX, "mend(8, 0, 0)", () -> x.mend(8, 0, 0));
        Check.dueThrow(x, INDEX, "mend(-1, 0, 0)", () -> x.mend(-1, 0, 0));
        Check.dueThrow(x, ARGUMENT, "mend(0, 5, 0)", () -> x.mend(0, 5, 0));
        Check.dueThrow(x, ARGUMENT, "mend(0, -1, 0)", () -> x.mend(0, -1, 0));
    }
}
