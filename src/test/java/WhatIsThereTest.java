/** Promises 10 to 12: joint, doll, count. */
public final class WhatIsThereTest {
    public static void main(String[] args) {
        Check.runAll(WhatIsThereTest.class);
    }

    static void promise10_jointTellsEachThing() {
        DollCitadel x = new DollCitadel();
        x.make();
        x.make();
        x.pose(10, 20, 30, 40, 50, 60);
        x.bring(1, 1);
        x.mend(1, 1, 4);
        x.take(1, 0);
        Check.dueJoint(x, 1, 0, 10, 2, 0);
        Check.dueJoint(x, 1, 1, 20, 3, 0);
        Check.dueJoint(x, 1, 2, 30, 4, 0);
        Check.dueJoint(x, 1, 3, 40, 5, 0);
        Check.dueJoint(x, 1, 4, 50, 2, 19);
        Check.dueJoint(x, 1, 5, 60, 7, 0);
        Check.dueJoint(x, 0, 5, 0, 0, 0);
    }

    static void promise10_jointTellsWhetherItIsBroken() {
        DollCitadel x = new DollCitadel();
        x.make();
        x.pose(0, 0, 0, 0, 0, 0);
        x.pose(0, 0, 90, 80, 0, 0);
        for (int i = 0; i < 9; i++) {
            x.take(0, 1 - i % 2);
        }
        Check.due("joint(0, 2, 3)", x.joint(0, 2, 3), 0);
        x.take(0, 0);
        Check.due("joint(0, 2, 3)", x.joint(0, 2, 3), 1);
        Check.due("joint(0, 3, 3)", x.joint(0, 3, 3), 0);
    }

    static void promise10_wrongNumbers() {
        DollCitadel x = new DollCitadel();
        x.make();
        int[][] wrongs = {{-1, 0, 0}, {1, 0, 0}, {8, 0, 0}, {0, -1, 0}, {0, 6, 0}, {0, 0, -1}, {0, 0, 4},
            {Integer.MIN_VALUE, 0, 0}, {0, Integer.MAX_VALUE, 0}, {0, 0, Integer.MIN_VALUE}};
        for (int[] w : wrongs) {
            Check.dueThrow(x, IndexOutOfBoundsException.class, "joint(" + w[0] + ", " + w[1] + ", " + w[2] + ")",
                    () -> x.joint(w[0], w[1], w[2]));
        }
    }

    static void promise11_dollTellsEachThing() {
        DollCitadel x = new DollCitadel();
        x.make();
        x.make();
        x.pose(0, 0, 0, 0, 0, 0);
        x.bring(2, 20);
        x.dress(1, 6, 11);
        x.blink(1, 1);
        x.pass(2);
        x.blink(1, 0);
        x.blink(1, 1);
        x.pass(1);
        x.take(1, 0);
        x.take(1, 0);
        Check.dueDoll(x, 1, 0, 1, 2, 1, 3, 6, 11, 2);
        Check.dueDoll(x, 0, 1, 1, 3, 3, 3, 0, 0, 0);
    }

    static void promise11_noWigIsMinus1() {
        DollCitadel x = new DollCitadel();
        x.make();
        x.pass(9);
        Check.due("doll(0, 4)", x.doll(0, 4), 9);
        x.pass(1);
        Check.due("doll(0, 4)", x.doll(0, 4), -1);
        x.pass(60);
        Check.due("doll(0, 4)", x.doll(0, 4), -1);
    }

    static void promise11_wrongNumbers() {
        DollCitadel x = new DollCitadel();
        x.make();
        int[][] wrongs = {{-1, 0}, {1, 0}, {8, 0}, {0, -1}, {0, 8}, {Integer.MAX_VALUE, 0}, {0, Integer.MIN_VALUE},
            {Integer.MIN_VALUE, 0}, {0, Integer.MAX_VALUE}};
        for (int[] w : wrongs) {
            Check.dueThrow(x, IndexOutOfBoundsException.class, "doll(" + w[0] + ", " + w[1] + ")",
                    () -> x.doll(w[0], w[1]));
        }
    }

    static void promise12_countTellsEachThing() {
        DollCitadel x = new DollCitadel();
        x.make();
        x.make();
        x.make();
        x.pose(0, 0, 0, 0, 0, 0);
        x.pose(0, 0, 0, 90, 0, 90);
        for (int i = 0; i < 10; i++) {
            x.take(1, 1 - i % 2);
        }
        for (int kind = 0; kind < 5; kind++) {
            x.bring(kind, 20 + kind);
        }
        x.dress(0, 1, 5);
        x.dress(2, 2, 4);
        x.blink(0, 0);
        x.pass(9);
        x.setMoths(2);
        Check.dueCounts(x, 9, 3, 2, 2, 2, 3, 2, 5, 20, 21, 13, 23, 24);
        x.mend(2, 4, 0);
        x.mend(2, 3, 0);
        x.pass(1);
        Check.dueCounts(x, 10, 3, 2, 2, 2, 1, 2, 3, 20, 21, 13, 22, 23);
    }

    static void promise12_stuckIsADustOf9() {
        DollCitadel x = new DollCitadel();
        x.make();
        x.pass(8);
        Check.due("count(7)", x.count(7), 0);
        x.blink(0, 0);
        x.pass(1);
        Check.due("count(7)", x.count(7), 1);
        x.blink(0, 0);
        x.pass(1);
        Check.due("count(7)", x.count(7), 2);
    }

    static void promise12_wrongNumbers() {
        DollCitadel x = new DollCitadel();
        for (int what : new int[] {-1, 13, Integer.MIN_VALUE, Integer.MAX_VALUE}) {
            Check.dueThrow(x, IndexOutOfBoundsException.class, "count(" + what + ")", () -> x.count(what));
        }
    }
}
