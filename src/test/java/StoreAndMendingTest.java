/** Promises 7 to 9: bring, setMoths, mend. */
public final class StoreAndMendingTest {
    public static void main(String[] args) {
        Check.runAll(StoreAndMendingTest.class);
    }

    /** Two dolls, the pose 0 of zeros alone, the pose 1 of 90 alone, and some of each kind. */
    private static DollCitadel withStore(int many) {
        DollCitadel x = new DollCitadel();
        x.make();
        x.make();
        x.pose(0, 0, 0, 0, 0, 0);
        x.pose(90, 90, 90, 90, 90, 90);
        for (int kind = 0; kind < 5; kind++) {
            x.bring(kind, many);
        }
        return x;
    }

    static void promise07_bringAddsToEachKind() {
        DollCitadel x = new DollCitadel();
        for (int kind = 0; kind < 5; kind++) {
            Check.due("bring(" + kind + ", 1)", x.bring(kind, 1), 1);
            Check.due("bring again", x.bring(kind, 10 + kind), 11 + kind);
        }
        for (int kind = 0; kind < 5; kind++) {
            Check.due("count(" + (8 + kind) + ")", x.count(8 + kind), 11 + kind);
        }
    }

    static void promise07_atMost99() {
        DollCitadel x = new DollCitadel();
        Check.due("bring(3, 98)", x.bring(3, 98), 98);
        Check.due("bring(3, 1)", x.bring(3, 1), 99);
        Check.due("bring(3, 1)", x.bring(3, 1), 99);
        Check.due("bring(3, 99)", x.bring(3, 99), 99);
        Check.due("bring(4, 99)", x.bring(4, 99), 99);
    }

    static void promise07_wrongArguments() {
        DollCitadel x = new DollCitadel();
        int[][] wrongs = {{-1, 1}, {5, 1}, {0, 0}, {0, 100}, {0, -1}, {Integer.MIN_VALUE, 1}, {Integer.MAX_VALUE, 1},
            {0, Integer.MIN_VALUE}, {0, Integer.MAX_VALUE}};
        for (int[] w : wrongs) {
            Check.dueThrow(x, IllegalArgumentException.class, "bring(" + w[0] + ", " + w[1] + ")",
                    () -> x.bring(w[0], w[1]));
        }
    }

    static void promise08_setMothsReturnsThoseBefore() {
        DollCitadel x = new DollCitadel();
        Check.due("setMoths(3)", x.setMoths(3), 1);
        Check.due("count(3)", x.count(3), 3);
        Check.due("setMoths(0)", x.setMoths(0), 3);
        Check.due("setMoths(2)", x.setMoths(2), 0);
        Check.due("count(3)", x.count(3), 2);
    }

    static void promise08_mothsEatFromThenOn() {
        DollCitadel x = new DollCitadel();
        x.make();
        x.pass(1);
        Check.due("doll(0, 4)", x.doll(0, 4), 1);
        x.setMoths(3);
        x.pass(1);
        Check.due("doll(0, 4)", x.doll(0, 4), 4);
        x.setMoths(0);
        x.pass(60);
        Check.due("doll(0, 4)", x.doll(0, 4), 4);
    }

    static void promise08_wrongArguments() {
        DollCitadel x = new DollCitadel();
        for (int moths : new int[] {-1, 4, Integer.MIN_VALUE, Integer.MAX_VALUE}) {
            Check.dueThrow(x, IllegalArgumentException.class, "setMoths(" + moths + ")", () -> x.setMoths(moths));
        }
        Check.due("count(3)", x.count(3), 1);
    }

    static void promise09_aJointHasNoWearAndNoLacquerThen() {
        DollCitadel x = withStore(3);
        x.mend(0, 1, 2);
        x.take(0, 1);
        x.take(1, 1);
        Check.dueJoint(x, 0, 2, 90, 4, 19);
        Check.due("mend(0, 0, 2)", x.mend(0, 0, 2), 2);
        Check.dueJoint(x, 0, 2, 90, 0, 0);
        Check.dueJoint(x, 0, 1, 90, 10, 0);
        Check.dueJoint(x, 0, 3, 90, 10, 0);
        Check.dueJoint(x, 1, 2, 90, 10, 0);
        Check.due("count(8)", x.count(8), 2);
    }

    static void promise09_aBrokenJointTurnsAgain() {
        DollCitadel x = withStore(9);
        for (int i = 0; i < 10; i++) {
            x.take(0, 1 - i % 2);
        }
        Check.due("count(4)", x.count(4), 6);
        for (int joint = 0; joint < 6; joint++) {
            Check.dueThrow(x, IllegalStateException.class, "take", () -> x.take(0, 1));
            Check.due("mend", x.mend(0, 0, joint), 8 - joint);
        }
        Check.due("count(4)", x.count(4), 0);
        Check.due("take(0, 1)", x.take(0, 1), 0);
    }

    static void promise09_aPotGives20Lacquer() {
        DollCitadel x = withStore(3);
        Check.due("mend(1, 1, 5)", x.mend(1, 1, 5), 2);
        Check.dueJoint(x, 1, 5, 0, 0, 20);
        Check.dueJoint(x, 1, 4, 0, 0, 0);
        Check.dueJoint(x, 0, 5, 0, 0, 0);
        x.take(1, 1);
        Check.dueJoint(x, 1, 5, 90, 4, 19);
        Check.due("mend(1, 1, 5)", x.mend(1, 1, 5), 1);
        Check.dueJoint(x, 1, 5, 90, 4, 20);
        Check.due("mend(1, 1, 5), needed or not", x.mend(1, 1, 5), 0);
        Check.dueJoint(x, 1, 5, 90, 4, 20);
    }

    static void promise09_aPinGoesIntoTheDress() {
        DollCitadel x = withStore(14);
        Check.dueThrow(x, IllegalStateException.class, "mend(0, 2, 0) without a dress", () -> x.mend(0, 2, 0));
        x.dress(0, 3, 10);
        Check.due("mend(0, 2, 0)", x.mend(0, 2, 0), 3);
        Check.due("mend(0, 2, 5)", x.mend(0, 2, 5), 2);
        Check.dueDoll(x, 0, 1, 1, 0, 0, 0, 3, 12);
        Check.dueThrow(x, IllegalStateException.class, "mend(0, 2, 0) with 12 pins", () -> x.mend(0, 2, 0));
    }

    static void promise09_aClothWipesBothEyes() {
        DollCitadel x = withStore(2);
        x.blink(0, 1);
        x.pass(2);
        x.blink(0, 1);
        x.pass(7);
        Check.dueDoll(x, 0, 1, 1, 9, 7);
        Check.due("mend(0, 3, 4)", x.mend(0, 3, 4), 1);
        Check.dueDoll(x, 0, 1, 1, 0, 0);
        Check.dueDoll(x, 1, 1, 1, 9, 9);
        Check.dueTrue("blink(0, 0) closes", !x.blink(0, 0));
        Check.due("a cloth on closed eyes", x.mend(0, 3, 0), 0);
        Check.dueDoll(x, 0, 0, 1, 0, 0);
    }

    static void promise09_aWigIsNew() {
        DollCitadel x = withStore(3);
        x.pass(4);
        Check.due("doll(0, 4)", x.doll(0, 4), 4);
        Check.due("mend(0, 4, 1)", x.mend(0, 4, 1), 2);
        Check.due("doll(0, 4)", x.doll(0, 4), 0);
        Check.due("doll(1, 4)", x.doll(1, 4), 4);
        x.pass(6);
        Check.due("doll(1, 4)", x.doll(1, 4), -1);
        Check.due("mend(1, 4, 0)", x.mend(1, 4, 0), 1);
        Check.due("doll(1, 4)", x.doll(1, 4), 0);
        Check.due("count(5)", x.count(5), 2);
    }

    static void promise09_noneInStore() {
        DollCitadel x = withStore(1);
        x.dress(0, 1, 1);
        for (int kind = 0; kind < 5; kind++) {
            int used = kind;
            if (kind != 2) {
                Check.due("the last of " + kind, x.mend(0, kind, 0), 0);
            }
            Check.dueThrow(x, IllegalStateException.class, "mend(0, " + kind + ", 0)", () -> x.mend(0, used, 0));
        }
    }

    static void promise09_wrongArgumentsInTheirOrder() {
        DollCitadel x = withStore(1);
        x.mend(0, 0, 0);
        for (int doll : new int[] {-1, 2, 8, Integer.MIN_VALUE, Integer.MAX_VALUE}) {
            Check.dueThrow(x, IndexOutOfBoundsException.class, "mend(" + doll + ", 5, 0)", () -> x.mend(doll, 5, 0));
        }
        for (int place : new int[] {-1, 6, Integer.MIN_VALUE, Integer.MAX_VALUE}) {
            for (int kind = -1; kind <= 5; kind++) {
                int used = kind;
                Check.dueThrow(x, IndexOutOfBoundsException.class, "mend(0, " + kind + ", " + place + ")",
                        () -> x.mend(0, used, place));
            }
        }
        for (int kind : new int[] {-1, 5, Integer.MIN_VALUE, Integer.MAX_VALUE}) {
            Check.dueThrow(x, IllegalArgumentException.class, "mend(0, " + kind + ", 0)", () -> x.mend(0, kind, 0));
        }
    }
}
