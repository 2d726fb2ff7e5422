/** Promise 19: pass, and what a day does. */
public final class DaysTest {
    public static void main(String[] args) {
        Check.runAll(DaysTest.class);
    }

    /** A doll whose waist has this much wear (in tens), and 99 pins in store. */
    private static DollCitadel withWaist(int tens) {
        DollCitadel x = new DollCitadel();
        x.make();
        x.pose(0, 0, 0, 0, 0, 0);
        x.pose(0, 0, 0, 0, 0, 90);
        for (int i = 0; i < tens; i++) {
            x.take(0, 1 - i % 2);
        }
        x.bring(2, 99);
        return x;
    }

    static void promise19_daysGoBy() {
        DollCitadel x = new DollCitadel();
        Check.due("pass(1)", x.pass(1), 0);
        Check.due("count(0)", x.count(0), 1);
        Check.due("pass(60)", x.pass(60), 0);
        Check.due("count(0)", x.count(0), 61);
    }

    static void promise19_aWigIsLostWith10() {
        DollCitadel x = new DollCitadel();
        x.make();
        x.make();
        Check.due("pass(9)", x.pass(9), 0);
        Check.due("doll(0, 4)", x.doll(0, 4), 9);
        Check.due("pass(1)", x.pass(1), 2);
        Check.due("doll(1, 4)", x.doll(1, 4), -1);
        Check.due("pass(60)", x.pass(60), 0);
        Check.due("doll(1, 4)", x.doll(1, 4), -1);
    }

    static void promise19_manyMothsEatOver10() {
        DollCitadel x = new DollCitadel();
        x.make();
        x.setMoths(3);
        Check.due("pass(3)", x.pass(3), 0);
        Check.due("doll(0, 4)", x.doll(0, 4), 9);
        Check.due("pass(1)", x.pass(1), 1);
        Check.due("doll(0, 4)", x.doll(0, 4), -1);
    }

    static void promise19_withoutMothsNoWigIsEaten() {
        DollCitadel x = new DollCitadel();
        x.make();
        x.pass(9);
        x.setMoths(0);
        Check.due("pass(60)", x.pass(60), 0);
        Check.due("doll(0, 4)", x.doll(0, 4), 9);
    }

    static void promise19_aNewWigCanBeLostAgain() {
        DollCitadel x = new DollCitadel();
        x.make();
        x.bring(4, 1);
        Check.due("pass(10)", x.pass(10), 1);
        x.mend(0, 4, 0);
        Check.due("pass(9)", x.pass(9), 0);
        Check.due("pass(1)", x.pass(1), 1);
    }

    static void promise19_pinsGoFromAWaistOf50() {
        DollCitadel x = withWaist(5);
        x.setMoths(0);
        x.dress(0, 3, 5);
        Check.due("pass(2)", x.pass(2), 0);
        Check.dueDoll(x, 0, 1, 1, 2, 2, 0, 3, 3);
        Check.due("count(10)", x.count(10), 94);
        Check.due("pass(1)", x.pass(1), 1);
        Check.dueDoll(x, 0, 1, 1, 3, 3, 0, 0, 0);
        Check.due("the pins are gone", x.count(10), 94);
        Check.due("pass(60)", x.pass(60), 0);
    }

    static void promise19_pinsStayBelow50() {
        DollCitadel x = withWaist(4);
        x.pose(0, 0, 0, 0, 0, 80);
        x.take(0, 2);
        Check.due("joint(0, 5, 1)", x.joint(0, 5, 1), 49);
        x.setMoths(0);
        x.dress(0, 1, 1);
        Check.due("pass(60)", x.pass(60), 0);
        Check.dueDoll(x, 0, 1, 1, 9, 9, 0, 1, 1);
    }

    static void promise19_onlyTheWaistMatters() {
        DollCitadel x = new DollCitadel();
        x.make();
        x.pose(0, 0, 0, 0, 0, 0);
        x.pose(90, 90, 90, 90, 90, 0);
        for (int i = 0; i < 10; i++) {
            x.take(0, 1 - i % 2);
        }
        x.bring(2, 1);
        x.setMoths(0);
        x.dress(0, 1, 1);
        Check.due("pass(60)", x.pass(60), 0);
        Check.due("doll(0, 6)", x.doll(0, 6), 1);
    }

    static void promise19_aDressOfWeight1FallsWithItsLastPin() {
        DollCitadel x = withWaist(5);
        x.setMoths(0);
        x.dress(0, 1, 1);
        Check.due("pass(1)", x.pass(1), 1);
        Check.dueDoll(x, 0, 1, 1, 1, 1, 0, 0, 0);
    }

    static void promise19_wigsAndDressesAreCountedTogether() {
        DollCitadel x = withWaist(10);
        x.make();
        x.dress(0, 5, 5);
        Check.due("pass(60)", x.pass(60), 3);
    }

    static void promise19_lacquerDriesOnDaysDivisibleBy3() {
        DollCitadel x = new DollCitadel();
        x.make();
        x.bring(1, 2);
        x.mend(0, 1, 0);
        x.mend(0, 1, 3);
        int[] want = {19, 19, 19, 18, 18, 18, 17};
        for (int day = 0; day < want.length; day++) {
            x.pass(1);
            Check.dueJoint(x, 0, 0, 0, 0, want[day]);
            Check.dueJoint(x, 0, 3, 0, 0, want[day]);
            Check.dueJoint(x, 0, 1, 0, 0, 0);
        }
    }

    static void promise19_lacquerDriesInOneLongPassToo() {
        DollCitadel x = new DollCitadel();
        x.make();
        x.bring(1, 1);
        x.pass(1);
        x.mend(0, 1, 5);
        Check.due("pass(57)", x.pass(57), 1);
        Check.dueJoint(x, 0, 5, 0, 0, 1);
        x.pass(2);
        Check.dueJoint(x, 0, 5, 0, 0, 1);
        x.pass(1);
        Check.dueJoint(x, 0, 5, 0, 0, 0);
        x.pass(3);
        Check.dueJoint(x, 0, 5, 0, 0, 0);
    }

    static void promise19_openEyesGatherDustUpTo9() {
        DollCitadel x = new DollCitadel();
        x.make();
        x.blink(0, 1);
        x.pass(8);
        Check.dueDoll(x, 0, 1, 0, 8, 0);
        x.pass(1);
        Check.dueDoll(x, 0, 1, 0, 9, 0);
        x.pass(60);
        Check.dueDoll(x, 0, 1, 0, 9, 0);
    }

    static void promise19_manyDaysAreAsManySingleOnes() {
        for (int days = 1; days <= 60; days++) {
            DollCitadel x = withWaist(6);
            DollCitadel y = withWaist(6);
            x.dress(0, 2, 12);
            y.dress(0, 2, 12);
            int lost = 0;
            for (int i = 0; i < days; i++) {
                lost += x.pass(1);
            }
            Check.due("pass(" + days + ")", y.pass(days), lost);
            Check.due("digest()", y.digest(), x.digest());
        }
    }

    static void promise19_wrongArguments() {
        DollCitadel x = new DollCitadel();
        x.make();
        for (int days : new int[] {0, 61, -1, Integer.MIN_VALUE, Integer.MAX_VALUE}) {
            Check.dueThrow(x, IllegalArgumentException.class, "pass(" + days + ")", () -> x.pass(days));
        }
        Check.due("count(0)", x.count(0), 0);
    }
}
