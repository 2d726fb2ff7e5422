/** Citadels that the tests start from. */
final class Citadels {
    /** The poses of a bench, by number. */
    static final int REST = 0;
    static final int FAR = 1;
    static final int NEAR = 2;
    static final int MID = 3;

    static final int[] ALL_JOINTS = {0, 1, 2, 3, 4, 5};

    private Citadels() {
    }

    static DollCitadel withDolls(int many) {
        DollCitadel x = new DollCitadel();
        for (int i = 0; i < many; i++) {
            x.make();
        }
        return x;
    }

    /** Tells a pose in which these joints stand at the angle, and the others at 0. */
    static int poseOf(DollCitadel x, int angle, int... joints) {
        int[] a = new int[6];
        for (int joint : joints) {
            a[joint] = angle;
        }
        return x.pose(a[0], a[1], a[2], a[3], a[4], a[5]);
    }

    /** Two dolls and the four poses above, in which these joints stand at 0, 90, 9 and 5. */
    static DollCitadel bench(int... joints) {
        DollCitadel x = withDolls(2);
        poseOf(x, 0, joints);
        poseOf(x, 90, joints);
        poseOf(x, 9, joints);
        poseOf(x, 5, joints);
        return x;
    }

    /** Gives the bench's joints of a new doll so much wear (not 1), without lacquer, at the angle 0 again. */
    static void wear(DollCitadel x, int doll, int wear) {
        int left = wear;
        while (left >= 20 && left != 21) {
            takeAll(x, doll, FAR, REST);
            left -= 20;
        }
        if (left % 2 == 1) {
            takeAll(x, doll, MID, NEAR, REST);
            left -= 3;
        }
        while (left > 0) {
            takeAll(x, doll, NEAR, REST);
            left -= 2;
        }
    }

    static void takeAll(DollCitadel x, int doll, int... poses) {
        for (int pose : poses) {
            x.take(doll, pose);
        }
    }

    /** A bench on which the doll 0 has so much wear in these joints. */
    static DollCitadel worn(int wear, int... joints) {
        DollCitadel x = bench(joints);
        wear(x, 0, wear);
        return x;
    }

    /** As many of each kind as there can be. */
    static void fillStore(DollCitadel x) {
        for (int kind = 0; kind < 5; kind++) {
            x.bring(kind, 99);
        }
    }

    /**
     * Some of everything: 3 dolls and 3 poses; the doll 0 is broken in all joints, stuck in both eyes, and dressed
     * with 12 pins; 1 has a closed eye, a lacquered joint, and 5 pins; 2 has no dress. Pins in store: 10.
     */
    static DollCitadel furnished() {
        DollCitadel x = withDolls(3);
        poseOf(x, 0);
        poseOf(x, 90, ALL_JOINTS);
        x.pose(30, 0, 0, 0, 0, 45);
        for (int i = 0; i < 5; i++) {
            takeAll(x, 0, 1, 0);
        }
        x.take(1, 2);
        x.blink(1, 1);
        x.pass(9);
        x.setMoths(2);
        x.bring(0, 4);
        x.bring(1, 4);
        x.bring(2, 27);
        x.bring(3, 3);
        x.bring(4, 2);
        x.dress(0, 3, 12);
        x.dress(1, 2, 5);
        x.mend(1, 1, 3);
        x.mend(1, 4, 0);
        return x;
    }

    /**
     * All that can be full: 8 dolls, broken in all joints, stuck in all eyes, in dresses of 9 with 12 pins; 8 poses;
     * 99 of each kind in store; 3 moths. The wigs are eaten up.
     */
    static DollCitadel full() {
        DollCitadel x = withDolls(8);
        for (int i = 0; i < 8; i++) {
            poseOf(x, i % 2 == 0 ? 0 : 90, ALL_JOINTS);
        }
        for (int doll = 0; doll < 8; doll++) {
            for (int i = 0; i < 5; i++) {
                takeAll(x, doll, 1, 0);
            }
        }
        x.setMoths(3);
        x.pass(9);
        x.bring(2, 96);
        for (int doll = 0; doll < 8; doll++) {
            x.dress(doll, 9, 12);
        }
        fillStore(x);
        return x;
    }
}
