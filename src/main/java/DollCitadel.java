/** A citadel of dolls: what is promised of it stands in ../shared/DOC.md. */
public final class DollCitadel {
    private static final int MOST_DOLLS = 8;
    private static final int MOST_POSES = 8;
    private static final int JOINTS = 6;
    private static final int WAIST = 5;
    private static final int EYES = 2;
    private static final int MOST_ANGLE = 90;
    private static final int WORN = 50;
    private static final int BROKEN = 100;
    private static final int FULL_LACQUER = 20;
    private static final int DUSTY = 5;
    private static final int STUCK = 9;
    private static final int MUCH_EATEN = 5;
    private static final int EATEN_UP = 10;
    private static final int NO_WIG = -1;
    private static final int NO_DRESS = 0;
    private static final int MOST_WEIGHT = 9;
    private static final int MOST_PINS = 12;
    private static final int MOST_MOTHS = 3;
    private static final int MOST_DAYS = 60;
    private static final int MOST_TIMES = 50;

    private static final int SPARE_JOINT = 0;
    private static final int POT = 1;
    private static final int PIN = 2;
    private static final int CLOTH = 3;
    private static final int KINDS = 5;
    private static final int MOST_STORED = 99;

    private static final int COUNT_BROKEN = 4;
    private static final int COUNT_WIGS = 5;
    private static final int COUNT_DRESSES = 6;
    private static final int COUNT_STUCK = 7;
    private static final int COUNT_STORE = 8;

    private static final int DOLL_TELLS = 8;
    private static final int JOINT_TELLS = 4;

    private final Doll[] dolls = new Doll[MOST_DOLLS];
    private final Pose[] poses = new Pose[MOST_POSES];
    private final int[] store = new int[KINDS];
    private final Pose rest = new Pose();
    // What only would be is tried on this one, so that no call leaves a new doll in the room.
    private final Doll trial = new Doll();
    private int dollCount = 0;
    private int poseCount = 0;
    private int day = 0;
    private int moths = 1;

    public DollCitadel() {
    }

    // ---- dolls and poses

    public int make() throws IllegalStateException {
        if (dollCount >= dolls.length) {
            throw new IllegalStateException("there are 8 dolls");
        }
        int number = dollCount;
        dolls[number] = new Doll();
        dollCount++;
        return number;
    }

    public int pose(int a, int b, int c, int d, int e, int f)
            throws IllegalArgumentException, IllegalStateException {
        if (!(isAngle(a) && isAngle(b) && isAngle(c) && isAngle(d) && isAngle(e) && isAngle(f))) {
            throw new IllegalArgumentException("an angle is not 0 to 90");
        }
        if (poseCount >= poses.length) {
            throw new IllegalStateException("there are 8 poses");
        }
        int number = poseCount;
        Pose told = new Pose();
        told.angles[0] = a;
        told.angles[1] = b;
        told.angles[2] = c;
        told.angles[3] = d;
        told.angles[4] = e;
        told.angles[5] = f;
        poses[number] = told;
        poseCount++;
        return number;
    }

    public int take(int doll, int pose) throws IndexOutOfBoundsException, IllegalStateException {
        Doll taker = knownDoll(doll);
        Pose goal = knownPose(pose);
        if (!taker.canTurnTo(goal)) {
            throw new IllegalStateException("a joint that would turn is broken");
        }
        int brokenBefore = taker.brokenJoints();
        taker.turnTo(goal);
        taker.posesTaken++;
        return taker.brokenJoints() - brokenBefore;
    }

    public boolean blink(int doll, int eye) throws IndexOutOfBoundsException, IllegalStateException {
        Doll blinker = knownDoll(doll);
        if (eye < 0 || eye >= EYES) {
            throw new IndexOutOfBoundsException("eye is not 0 to 1");
        }
        if (blinker.dusts[eye] >= STUCK) {
            throw new IllegalStateException("the eye is stuck");
        }
        blinker.open[eye] = !blinker.open[eye];
        return blinker.open[eye];
    }

    public int dress(int doll, int weight, int pins)
            throws IndexOutOfBoundsException, IllegalArgumentException, IllegalStateException {
        Doll wearer = knownDoll(doll);
        if (weight < 1 || weight > MOST_WEIGHT || pins < 0 || pins > MOST_PINS) {
            throw new IllegalArgumentException("weight is not 1 to 9, or pins is not 0 to 12");
        }
        if (pins < weight || pins > store[PIN]) {
            throw new IllegalStateException("too few pins for the dress, or in store");
        }
        int oldPins = wearer.pins;
        wearer.weight = weight;
        wearer.pins = pins;
        store[PIN] = Math.min(MOST_STORED, store[PIN] - pins + oldPins);
        return store[PIN];
    }

    // ---- store and mending

    public int bring(int kind, int many) throws IllegalArgumentException {
        if (kind < 0 || kind >= KINDS || many < 1 || many > MOST_STORED) {
            throw new IllegalArgumentException("kind is not 0 to 4, or many is not 1 to 99");
        }
        store[kind] = Math.min(MOST_STORED, store[kind] + many);
        return store[kind];
    }

    public int setMoths(int moths) throws IllegalArgumentException {
        if (moths < 0 || moths > MOST_MOTHS) {
            throw new IllegalArgumentException("moths is not 0 to 3");
        }
        int before = this.moths;
        this.moths = moths;
        return before;
    }

    public int mend(int doll, int kind, int place)
            throws IndexOutOfBoundsException, IllegalArgumentException, IllegalStateException {
        Doll mended = knownDoll(doll);
        // The document asks for a joint's number here even where the place does not matter.
        if (place < 0 || place >= JOINTS) {
            throw new IndexOutOfBoundsException("place is not 0 to 5");
        }
        if (kind < 0 || kind >= KINDS) {
            throw new IllegalArgumentException("kind is not 0 to 4");
        }
        if (store[kind] <= 0 || (kind == PIN && !mended.hasRoomForPin())) {
            throw new IllegalStateException("none in store, or no place for a pin");
        }
        switch (kind) {
            case SPARE_JOINT:
                mended.wears[place] = 0;
                mended.lacquers[place] = 0;
                break;
            case POT:
                mended.lacquers[place] = FULL_LACQUER;
                break;
            case PIN:
                mended.pins++;
                break;
            case CLOTH:
                mended.wipeEyes();
                break;
            default:
                mended.wigEaten = 0;
                break;
        }
        store[kind]--;
        return store[kind];
    }

    // ---- what is there

    public int joint(int doll, int joint, int what) throws IndexOutOfBoundsException {
        Doll asked = knownDoll(doll);
        if (joint < 0 || joint >= JOINTS || what < 0 || what >= JOINT_TELLS) {
            throw new IndexOutOfBoundsException("joint is not 0 to 5, or what is not 0 to 3");
        }
        switch (what) {
            case 0:
                return asked.angles[joint];
            case 1:
                return asked.wears[joint];
            case 2:
                return asked.lacquers[joint];
            default:
                return asked.wears[joint] >= BROKEN ? 1 : 0;
        }
    }

    public int doll(int doll, int what) throws IndexOutOfBoundsException {
        Doll asked = knownDoll(doll);
        if (what < 0 || what >= DOLL_TELLS) {
            throw new IndexOutOfBoundsException("what is not 0 to 7");
        }
        switch (what) {
            case 0:
                return asked.open[0] ? 1 : 0;
            case 1:
                return asked.open[1] ? 1 : 0;
            case 2:
                return asked.dusts[0];
            case 3:
                return asked.dusts[1];
            case 4:
                return asked.wigEaten;
            case 5:
                return asked.weight;
            case 6:
                return asked.pins;
            default:
                return asked.posesTaken;
        }
    }

    public int count(int what) throws IndexOutOfBoundsException {
        if (what < 0 || what >= COUNT_STORE + KINDS) {
            throw new IndexOutOfBoundsException("what is not 0 to 12");
        }
        if (what >= COUNT_STORE) {
            return store[what - COUNT_STORE];
        }
        switch (what) {
            case 0:
                return day;
            case 1:
                return dollCount;
            case 2:
                return poseCount;
            case 3:
                return moths;
            default:
                return tallyOfAll(what);
        }
    }

    // ---- what would be

    public int costs(int doll, int pose) throws IndexOutOfBoundsException {
        Doll asked = knownDoll(doll);
        Pose goal = knownPose(pose);
        if (!asked.canTurnTo(goal)) {
            return -1;
        }
        trial.becomeLike(asked);
        trial.turnTo(goal);
        return trial.wearOfAllJoints() - asked.wearOfAllJoints();
    }

    public int often(int doll, int pose) throws IndexOutOfBoundsException {
        Doll asked = knownDoll(doll);
        Pose goal = knownPose(pose);
        trial.becomeLike(asked);
        int times = 0;
        while (times < MOST_TIMES && trial.canTurnTo(goal)) {
            trial.turnTo(goal);
            trial.turnTo(rest);
            times++;
        }
        return times;
    }

    public int needs(int doll, int kind) throws IndexOutOfBoundsException, IllegalArgumentException {
        Doll asked = knownDoll(doll);
        if (kind < 0 || kind >= KINDS) {
            throw new IllegalArgumentException("kind is not 0 to 4");
        }
        return asked.wants(kind);
    }

    public int lacks(int kind) throws IllegalArgumentException {
        if (kind < 0 || kind >= KINDS) {
            throw new IllegalArgumentException("kind is not 0 to 4");
        }
        int wanted = 0;
        for (Doll each : dolls) {
            if (each != null) {
                wanted += each.wants(kind);
            }
        }
        return Math.max(0, wanted - store[kind]);
    }

    public int worst() {
        int worstDoll = -1;
        int most = 0;
        for (int i = 0; i < dolls.length; i++) {
            Doll each = dolls[i];
            int wanted = each == null ? 0 : each.wantsInAll();
            if (wanted > most) {
                most = wanted;
                worstDoll = i;
            }
        }
        return worstDoll;
    }

    public int foresee(int days, int what) throws IllegalArgumentException, IndexOutOfBoundsException {
        if (days < 1 || days > MOST_DAYS) {
            throw new IllegalArgumentException("days is not 1 to 60");
        }
        if (what < COUNT_BROKEN || what > COUNT_STUCK) {
            throw new IndexOutOfBoundsException("what is not 4 to 7");
        }
        int tally = 0;
        for (Doll each : dolls) {
            if (each != null) {
                trial.becomeLike(each);
                liveThrough(trial, days);
                tally += trial.tally(what);
            }
        }
        return tally;
    }

    public int pass(int days) throws IllegalArgumentException {
        if (days < 1 || days > MOST_DAYS) {
            throw new IllegalArgumentException("days is not 1 to 60");
        }
        int lost = 0;
        // No doll's days touch another doll, so each may live through all of them at once.
        for (Doll each : dolls) {
            if (each != null) {
                lost += liveThrough(each, days);
            }
        }
        day += days;
        return lost;
    }

    public double mean() {
        if (dollCount <= 0) {
            return 0.0;
        }
        int wear = 0;
        for (Doll each : dolls) {
            if (each != null) {
                wear += each.wearOfAllJoints();
            }
        }
        return (double) wear / (double) (dollCount * JOINTS);
    }

    public long digest() {
        long d = 1063L;
        for (int what = 0; what < COUNT_STORE + KINDS; what++) {
            d = d * 31L + count(what);
        }
        for (Pose each : poses) {
            if (each != null) {
                d = each.digestInto(d);
            }
        }
        for (int i = 0; i < dollCount; i++) {
            for (int what = 0; what < DOLL_TELLS; what++) {
                d = d * 31L + doll(i, what);
            }
            d = digestJointsInto(d, i);
        }
        return d;
    }

    private long digestJointsInto(long before, int number) {
        long d = before;
        for (int i = 0; i < JOINTS; i++) {
            for (int what = 0; what < JOINT_TELLS; what++) {
                d = d * 31L + joint(number, i, what);
            }
        }
        return d;
    }

    private static boolean isAngle(int number) {
        return number >= 0 && number <= MOST_ANGLE;
    }

    private Doll knownDoll(int number) {
        Doll found = number >= 0 && number < dolls.length ? dolls[number] : null;
        if (found == null) {
            throw new IndexOutOfBoundsException("no such doll");
        }
        return found;
    }

    private Pose knownPose(int number) {
        Pose found = number >= 0 && number < poses.length ? poses[number] : null;
        if (found == null) {
            throw new IndexOutOfBoundsException("no such pose");
        }
        return found;
    }

    private int tallyOfAll(int what) {
        int tally = 0;
        for (Doll each : dolls) {
            if (each != null) {
                tally += each.tally(what);
            }
        }
        return tally;
    }

    private int liveThrough(Doll living, int days) {
        int lost = 0;
        for (int i = 0; i < days; i++) {
            lost += living.liveOneDay(day + i, moths);
        }
        return lost;
    }

    private static final class Pose {
        final int[] angles = new int[JOINTS];

        long digestInto(long before) {
            long d = before;
            for (int angle : angles) {
                d = d * 31L + angle;
            }
            return d;
        }
    }

    private static final class Doll {
        final int[] angles = new int[JOINTS];
        final int[] wears = new int[JOINTS];
        final int[] lacquers = new int[JOINTS];
        final boolean[] open = new boolean[EYES];
        final int[] dusts = new int[EYES];
        int wigEaten = 0;
        int weight = NO_DRESS;
        int pins = 0;
        int posesTaken = 0;

        Doll() {
            for (int i = 0; i < EYES; i++) {
                open[i] = true;
            }
        }

        void becomeLike(Doll other) {
            for (int i = 0; i < JOINTS; i++) {
                angles[i] = other.angles[i];
                wears[i] = other.wears[i];
                lacquers[i] = other.lacquers[i];
            }
            for (int i = 0; i < EYES; i++) {
                open[i] = other.open[i];
                dusts[i] = other.dusts[i];
            }
            wigEaten = other.wigEaten;
            weight = other.weight;
            pins = other.pins;
            posesTaken = other.posesTaken;
        }

        boolean canTurnTo(Pose goal) {
            for (int i = 0; i < JOINTS; i++) {
                if (wears[i] >= BROKEN && angles[i] != goal.angles[i]) {
                    return false;
                }
            }
            return true;
        }

        // Broken joints are left as they are, since a doll at rest may have some.
        void turnTo(Pose goal) {
            for (int i = 0; i < JOINTS; i++) {
                int degrees = Math.abs(goal.angles[i] - angles[i]);
                if (degrees > 0 && wears[i] < BROKEN) {
                    wears[i] = wearBehindTurn(wears[i], lacquers[i], degrees);
                    lacquers[i] = Math.max(0, lacquers[i] - 1);
                    angles[i] = goal.angles[i];
                }
            }
        }

        private static int wearBehindTurn(int wear, int lacquer, int degrees) {
            int more = lacquer > 0 ? degrees / 20 : degrees / 10 + 1;
            return Math.min(BROKEN, wear + more);
        }

        int wearOfAllJoints() {
            int sum = 0;
            for (int wear : wears) {
                sum += wear;
            }
            return sum;
        }

        int brokenJoints() {
            return jointsWornBy(BROKEN);
        }

        private int jointsWornBy(int least) {
            int many = 0;
            for (int wear : wears) {
                if (wear >= least) {
                    many++;
                }
            }
            return many;
        }

        private int jointsWithoutLacquer() {
            int many = 0;
            for (int lacquer : lacquers) {
                if (lacquer == 0) {
                    many++;
                }
            }
            return many;
        }

        private int eyesWithDust(int least) {
            int many = 0;
            for (int dust : dusts) {
                if (dust >= least) {
                    many++;
                }
            }
            return many;
        }

        void wipeEyes() {
            for (int i = 0; i < EYES; i++) {
                dusts[i] = 0;
            }
        }

        boolean hasRoomForPin() {
            return weight != NO_DRESS && pins < MOST_PINS;
        }

        int tally(int what) {
            switch (what) {
                case COUNT_BROKEN:
                    return brokenJoints();
                case COUNT_WIGS:
                    return wigEaten == NO_WIG ? 0 : 1;
                case COUNT_DRESSES:
                    return weight == NO_DRESS ? 0 : 1;
                default:
                    return eyesWithDust(STUCK);
            }
        }

        int wants(int kind) {
            switch (kind) {
                case SPARE_JOINT:
                    return jointsWornBy(WORN);
                case POT:
                    return jointsWithoutLacquer();
                case PIN:
                    return weight == NO_DRESS ? 0 : MOST_PINS - pins;
                case CLOTH:
                    return eyesWithDust(DUSTY) > 0 ? 1 : 0;
                default:
                    return wigEaten == NO_WIG || wigEaten >= MUCH_EATEN ? 1 : 0;
            }
        }

        int wantsInAll() {
            int sum = 0;
            for (int kind = 0; kind < KINDS; kind++) {
                sum += wants(kind);
            }
            return sum;
        }

        /** Answers how many of wig and dress are lost on this day. */
        int liveOneDay(int day, int moths) {
            int wigsBefore = tally(COUNT_WIGS);
            int dressesBefore = tally(COUNT_DRESSES);
            eatWig(moths);
            loosenDress();
            if (day % 3 == 0) {
                dryLacquer();
            }
            gatherDust();
            return wigsBefore - tally(COUNT_WIGS) + dressesBefore - tally(COUNT_DRESSES);
        }

        private void eatWig(int moths) {
            if (wigEaten == NO_WIG) {
                return;
            }
            wigEaten += moths;
            if (wigEaten >= EATEN_UP) {
                wigEaten = NO_WIG;
            }
        }

        private void loosenDress() {
            if (weight == NO_DRESS || wears[WAIST] < WORN) {
                return;
            }
            pins = Math.max(0, pins - 1);
            if (pins < weight) {
                weight = NO_DRESS;
                pins = 0;
            }
        }

        private void dryLacquer() {
            for (int i = 0; i < JOINTS; i++) {
                lacquers[i] = Math.max(0, lacquers[i] - 1);
            }
        }

        private void gatherDust() {
            for (int i = 0; i < EYES; i++) {
                if (open[i]) {
                    dusts[i] = Math.min(STUCK, dusts[i] + 1);
                }
            }
        }
    }
}
