/** Each call that changes something, where all is amiss: it changes what the document says, and nothing else. */
public final class NothingElseTest {
    public static void main(String[] args) {
        Check.runAll(NothingElseTest.class);
    }

    /**
     * Three dolls alike, with a wear of 20 and 18 lacquer in each joint, dust and eaten wigs, dresses of 2 with 5
     * pins, and the eye 1 closed; 50 of each kind in store; poses 0 to 3 of a bench.
     */
    private static DollCitadel amiss() {
        DollCitadel x = Citadels.bench(Citadels.ALL_JOINTS);
        x.make();
        x.bring(1, 18);
        x.bring(2, 15);
        for (int doll = 0; doll < 3; doll++) {
            Citadels.wear(x, doll, 20);
            for (int joint : Citadels.ALL_JOINTS) {
                x.mend(doll, 1, joint);
            }
            x.dress(doll, 2, 5);
        }
        x.pass(6);
        for (int doll = 0; doll < 3; doll++) {
            x.blink(doll, 1);
            Check.dueDoll(x, doll, 1, 0, 6, 6, 6, 2, 5, 2);
            Check.dueJoint(x, doll, 5, 0, 20, 18);
        }
        for (int kind = 0; kind < 5; kind++) {
            x.bring(kind, 50);
        }
        return x;
    }

    static void promise03_poseTellsAPose() {
        Told.dueChanged("pose", amiss(), x -> x.pose(1, 2, 3, 4, 5, 6), Told.count(2));
    }

    static void promise04_takeTurnsTheJointsOfOneDoll() {
        DollCitadel x = amiss();
        int one = Citadels.poseOf(x, 90, 3);
        Told.dueChanged("take of one joint", x, y -> y.take(1, one),
                Told.joint(1, 3, 0), Told.joint(1, 3, 1), Told.joint(1, 3, 2), Told.doll(1, 7));
    }

    static void promise04_takeOfAPoseThatTurnsNoneIsOnlyCounted() {
        Told.dueChanged("take of none", amiss(), x -> x.take(1, Citadels.REST), Told.doll(1, 7));
    }

    static void promise05_blinkMovesOneEye() {
        Told.dueChanged("blink(1, 0)", amiss(), x -> x.blink(1, 0), Told.doll(1, 0));
        Told.dueChanged("blink(2, 1)", amiss(), x -> x.blink(2, 1), Told.doll(2, 1));
    }

    static void promise06_dressChangesDressAndPins() {
        Told.dueChanged("dress(1, 3, 6)", amiss(), x -> x.dress(1, 3, 6),
                Told.doll(1, 5), Told.doll(1, 6), Told.count(10));
        Told.dueChanged("dress(1, 3, 5)", amiss(), x -> x.dress(1, 3, 5), Told.doll(1, 5));
        Told.dueChanged("dress(1, 2, 5)", amiss(), x -> x.dress(1, 2, 5));
    }

    static void promise07_bringChangesOneKind() {
        for (int kind = 0; kind < 5; kind++) {
            int brought = kind;
            Told.dueChanged("bring(" + kind + ", 1)", amiss(), x -> x.bring(brought, 1), Told.count(8 + kind));
        }
    }

    static void promise08_setMothsChangesMoths() {
        Told.dueChanged("setMoths(2)", amiss(), x -> x.setMoths(2), Told.count(3));
        Told.dueChanged("setMoths(1)", amiss(), x -> x.setMoths(1));
    }

    static void promise09_aJointMendsOneJoint() {
        Told.dueChanged("mend(1, 0, 4)", amiss(), x -> x.mend(1, 0, 4),
                Told.joint(1, 4, 1), Told.joint(1, 4, 2), Told.count(8));
    }

    static void promise09_aPotLacquersOneJoint() {
        Told.dueChanged("mend(1, 1, 4)", amiss(), x -> x.mend(1, 1, 4), Told.joint(1, 4, 2), Told.count(9));
    }

    static void promise09_aPinHoldsOneDress() {
        Told.dueChanged("mend(1, 2, 4)", amiss(), x -> x.mend(1, 2, 4), Told.doll(1, 6), Told.count(10));
    }

    static void promise09_aClothWipesTheEyesOfOneDoll() {
        Told.dueChanged("mend(1, 3, 4)", amiss(), x -> x.mend(1, 3, 4),
                Told.doll(1, 2), Told.doll(1, 3), Told.count(11));
    }

    static void promise09_aWigGoesToOneDoll() {
        Told.dueChanged("mend(1, 4, 4)", amiss(), x -> x.mend(1, 4, 4), Told.doll(1, 4), Told.count(12));
    }

    static void promise19_aDayWithoutLacquerDrying() {
        DollCitadel x = amiss();
        x.pass(1);
        Told.dueChanged("pass(1) on the day 7", x, y -> y.pass(1), Told.count(0),
                Told.doll(0, 2), Told.doll(0, 4), Told.doll(1, 2), Told.doll(1, 4), Told.doll(2, 2), Told.doll(2, 4));
    }
}
