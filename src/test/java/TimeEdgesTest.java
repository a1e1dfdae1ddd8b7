/** The boundary cases of "Time" and of the promises 15 and 16; each test quotes its sentence. */
public final class TimeEdgesTest {
    private static final Due due = new Due();

    public static void main(String[] args) {
        oneToFiftySteps();
        theLastTime();
        manyStepsAreSingleOnes();
        chargedAtMostFull();
        chargedWhileParkedAlone();
        chargedAheadOfItsBeginning();
        beginsAtItsTime();
        notMovedAtThePlace0();
        takesTheGust();
        downBelow0();
        downOnTheGround();
        downOnTheGroundUnderWay();
        downByTheBatteryAheadOfTheOthers();
        togetherInTheAir();
        togetherAtTwoPlaces();
        notTogether();
        downForGood();
        endsAtItsLastPlace();
        loseRanges();
        loseStates();
        loseInEachLayer();
        aboveTheSpotItGoesDown();
        upThenXThenY();
        theSpotOfThen();
        homeBelow0();
        homeByTheGust();
        due.end();
    }

    /** State, cell, layer and battery of a machine. */
    private static void isAt(SkyLanes x, int machine, int state, int place, int battery) {
        String name = "machine " + machine + " at " + x.time() + ": ";
        due.is(name + "state", x.ofMachine(machine, 0), state);
        due.is(name + "place", 100 * x.ofMachine(machine, 2) + x.ofMachine(machine, 1), place);
        due.is(name + "battery", x.ofMachine(machine, 3), battery);
    }

    /** "steps: 1 to 50", "Returns the time then." */
    private static void oneToFiftySteps() {
        SkyLanes x = new SkyLanes();
        for (int steps : new int[] {0, 51, -1, Integer.MIN_VALUE, Integer.MAX_VALUE}) {
            due.badArgument("tick(" + steps + ")", x, () -> x.tick(steps));
        }
        int time = 0;
        for (int steps = 1; steps <= 50; steps++) {
            time += steps;
            due.is("tick(" + steps + ")", x.tick(steps), time);
            due.is("the time", x.time(), time);
        }
    }

    /** "IllegalStateException if it would be above 20000": and nothing of it passes. */
    private static void theLastTime() {
        SkyLanes x = new SkyLanes();
        for (int i = 1; i <= 399; i++) {
            x.tick(50);
        }
        due.is("the time", x.tick(1), 19951);
        due.badState("to 20001", x, () -> x.tick(50));
        due.badArgument("51 steps", x, () -> x.tick(51));
        due.is("to 20000", x.tick(49), 20000);
        due.badState("to 20001 by one", x, () -> x.tick(1));
        due.badState("by 50", x, () -> x.tick(50));
        due.badArgument("by none", x, () -> x.tick(0));
    }

    /** "With each step the time is 1 more; then, in this order": many steps are as many single ones. */
    private static void manyStepsAreSingleOnes() {
        SkyLanes x = Draft.city(0, 9, 90);
        SkyLanes y = Draft.city(0, 9, 90);
        for (SkyLanes one : new SkyLanes[] {x, y}) {
            one.machine(1, 9, 60);
            one.gust(1, 2);
            Draft.file(one, "U1 E9 D1", 0, 3, 0);
            Draft.file(one, "U2 W9 S9 D2", 1, 5, 0);
        }
        for (int i = 1; i <= 30; i++) {
            x.tick(1);
        }
        y.tick(30);
        due.same("30 steps", Snapshot.of(y), Snapshot.of(x));
    }

    /** "a machine that is PARKED has 5 more in its battery, at most full" */
    private static void chargedAtMostFull() {
        for (int full = 20; full <= 30; full++) {
            SkyLanes x = new SkyLanes();
            x.spot(0);
            x.spot(1);
            x.machine(0, 0, full);
            Draft.file(x, "E1 W1 E1 W1 E1 W1 E1 W1", 0, 1, 0);
            x.tick(9);
            int left = full - 8;
            for (int i = 0; i < 4; i++) {
                due.is("left of " + full, x.ofMachine(0, 3), left);
                x.tick(1);
                left = left + 5 > full ? full : left + 5;
            }
        }
    }

    /** Those that FLY, on the ground, too, are LOST or DOWN have no more in their battery. */
    private static void chargedWhileParkedAlone() {
        SkyLanes x = Draft.city(0);
        Draft.file(x, "U1 D1 .3 U1 D1", 0, 1, 0);
        x.tick(3);
        isAt(x, 0, SkyLanes.FLIES, 0, 97);
        x.tick(3);
        isAt(x, 0, SkyLanes.FLIES, 0, 97);
        x.tick(1);
        isAt(x, 0, SkyLanes.FLIES, 100, 95);
        x.lose(0);
        x.tick(1);
        isAt(x, 0, SkyLanes.PARKED, 0, 94);
        x.tick(1);
        isAt(x, 0, SkyLanes.PARKED, 0, 99);
    }

    /** "in this order: a machine that is PARKED has 5 more ...; paths that WAIT and begin now FLY" */
    private static void chargedAheadOfItsBeginning() {
        SkyLanes x = Draft.city(0);
        Draft.file(x, "U1 .10 .7 D1", 0, 1, 0);
        x.tick(20);
        isAt(x, 0, SkyLanes.PARKED, 0, 80);
        Draft.file(x, "U1 D1", 0, 22, 0);
        x.tick(1);
        isAt(x, 0, SkyLanes.PARKED, 0, 85);
        x.tick(1);
        isAt(x, 0, SkyLanes.FLIES, 0, 90);
        x.tick(1);
        isAt(x, 0, SkyLanes.FLIES, 100, 88);
    }

    /** "FLIES 1 from the time at which it begins" */
    private static void beginsAtItsTime() {
        for (int begin = 1; begin <= 4; begin++) {
            SkyLanes x = Draft.city(0);
            Draft.file(x, "U1 D1", 0, begin, 0);
            for (int time = 0; time <= begin + 3; time++) {
                int state = time < begin ? SkyLanes.WAITS : time < begin + 2 ? SkyLanes.FLIES : SkyLanes.ENDED;
                due.is("its state at " + time, x.ofPath(0, 0), state);
                due.is("its machine at " + time, x.ofMachine(0, 0), state == SkyLanes.FLIES ? SkyLanes.FLIES : SkyLanes.PARKED);
                due.is("the path of it at " + time, x.ofMachine(0, 5), state == SkyLanes.ENDED ? SkyLanes.NONE : 0);
                x.tick(1);
            }
        }
    }

    /** "machines that FLY go to the place of the time, if they are not at the place 0" */
    private static void notMovedAtThePlace0() {
        SkyLanes x = Draft.city(0, 1);
        x.gust(1, 5);
        Draft.file(x, "E1 W1", 0, 2, 0);
        x.tick(2);
        isAt(x, 0, SkyLanes.FLIES, 0, 100);
        x.tick(1);
        isAt(x, 0, SkyLanes.FLIES, 1, 99);
        x.tick(1);
        isAt(x, 0, SkyLanes.PARKED, 0, 98);
    }

    /** "and take what that takes, the gust in place of the wind" */
    private static void takesTheGust() {
        for (int gust = 0; gust <= 5; gust++) {
            SkyLanes x = Draft.city(0, 1);
            x.wind(1, 3);
            x.wind(2, 2);
            x.gust(1, gust);
            x.gust(2, 5 - gust);
            Draft.file(x, "U1 .1 U1 E1 .1 D1 W1 D1 .1 E1", 0, 1, 0);
            int other = 5 - gust;
            int[] places = {0, 100, 100, 200, 201, 201, 101, 100, 0, 0};
            int[] take = {0, 2 + gust, 1 + gust, 2 + other, 1 + other, 1 + other, 1 + gust, 1 + gust, 1, 0};
            int left = 100;
            for (int k = 0; k < places.length; k++) {
                x.tick(1);
                left -= take[k];
                isAt(x, 0, SkyLanes.FLIES, places[k], left);
            }
            x.tick(1);
            isAt(x, 0, SkyLanes.PARKED, 1, left - 1);
        }
    }

    /** A machine full with 20 that is above the spot 0 from 2 on: 18 left, and with each time as much less as is told. */
    private static SkyLanes weak(String moves) {
        SkyLanes x = new SkyLanes();
        x.spot(0);
        x.spot(1);
        x.machine(0, 0, 20);
        due.is("accepted", Draft.file(x, moves, 0, 1, 0), 0);
        x.tick(2);
        isAt(x, 0, SkyLanes.FLIES, 100, 18);
        return x;
    }

    /** "those whose battery is below 0 are DOWN where they are": at 0 they are not. */
    private static void downBelow0() {
        SkyLanes x = weak("U1 .6 D1");
        x.gust(1, 5);
        x.tick(3);
        isAt(x, 0, SkyLanes.FLIES, 100, 0);
        x.tick(1);
        isAt(x, 0, SkyLanes.DOWN, 100, -6);
        due.is("its path", x.ofPath(0, 0), SkyLanes.BROKEN);
        due.is("it has none", x.ofMachine(0, 5), SkyLanes.NONE);
        due.is("down", x.count(3), 1);
        due.is("by no other", x.count(4), 0);
        SkyLanes y = weak("U1 .6 D1");
        y.gust(1, 5);
        y.tick(3);
        y.gust(1, 0);
        y.tick(1);
        isAt(y, 0, SkyLanes.DOWN, 100, -1);
    }

    /** "on the ground, too": and then its path has not ended. */
    private static void downOnTheGround() {
        SkyLanes x = weak("U1 .3 D1");
        x.gust(1, 5);
        x.tick(3);
        isAt(x, 0, SkyLanes.FLIES, 100, 0);
        x.tick(1);
        isAt(x, 0, SkyLanes.DOWN, 0, -1);
        due.is("its path", x.ofPath(0, 0), SkyLanes.BROKEN);
        SkyLanes y = weak("U1 .3 D1");
        y.gust(1, 5);
        y.tick(2);
        y.gust(1, 4);
        y.tick(1);
        isAt(y, 0, SkyLanes.FLIES, 100, 1);
        y.tick(1);
        isAt(y, 0, SkyLanes.PARKED, 0, 0);
        due.is("its path", y.ofPath(0, 0), SkyLanes.ENDED);
    }

    private static void downOnTheGroundUnderWay() {
        SkyLanes x = weak("U1 .2 D1 .5 E1");
        x.gust(1, 5);
        x.tick(2);
        x.gust(1, 4);
        x.tick(1);
        isAt(x, 0, SkyLanes.FLIES, 0, 5);
        x.tick(5);
        isAt(x, 0, SkyLanes.FLIES, 0, 5);
        x.tick(1);
        isAt(x, 0, SkyLanes.PARKED, 1, 4);
        SkyLanes y = weak("U1 .3 D1 .2 E1 W1");
        y.gust(1, 5);
        y.tick(2);
        y.gust(1, 4);
        y.tick(1);
        y.gust(1, 5);
        y.tick(3);
        isAt(y, 0, SkyLanes.FLIES, 0, 0);
        y.tick(1);
        isAt(y, 0, SkyLanes.DOWN, 1, -1);
        due.is("its path", y.ofPath(0, 0), SkyLanes.BROKEN);
    }

    /** The machine 0 is lost at 102 at 4: at 202 at 5, 302, 402, 401, 400 at 9, 300, 200, 100 at 12, at 0 at 13. */
    private static SkyLanes comesDown(int full) {
        SkyLanes x = Draft.city(0, 9);
        x.machine(1, 0, full);
        x.machine(2, 0, 100);
        Draft.file(x, "U1 E2 W2 D1", 0, 1, 0);
        x.tick(4);
        due.is("lost", x.lose(0), 0);
        return x;
    }

    /** "of these, those whose battery is below 0 are DOWN ...; those in the air at one cell and layer, two or more that FLY or are LOST" */
    private static void downByTheBatteryAheadOfTheOthers() {
        SkyLanes x = comesDown(20);
        due.is("a weak one", Draft.file(x, "U1 .5 D1", 1, 7, 0), 1);
        x.tick(4);
        isAt(x, 1, SkyLanes.FLIES, 100, 18);
        x.gust(1, 4);
        x.tick(3);
        isAt(x, 1, SkyLanes.FLIES, 100, 3);
        isAt(x, 0, SkyLanes.LOST, 200, 86);
        x.tick(1);
        isAt(x, 1, SkyLanes.DOWN, 100, -2);
        isAt(x, 0, SkyLanes.LOST, 100, 81);
        due.is("by no other", x.count(4), 0);
        due.is("one is down", x.count(3), 1);
        x.tick(1);
        isAt(x, 0, SkyLanes.PARKED, 0, 80);
    }

    /** "those in the air at one cell and layer, two or more that FLY or are LOST, are all DOWN" */
    private static void togetherInTheAir() {
        SkyLanes x = comesDown(100);
        due.is("it flies", Draft.file(x, "U3 .3 D3", 1, 6, 0), 1);
        x.tick(5);
        isAt(x, 0, SkyLanes.LOST, 400, 88);
        isAt(x, 1, SkyLanes.FLIES, 300, 94);
        due.is("none yet", x.count(3), 0);
        x.tick(1);
        isAt(x, 0, SkyLanes.DOWN, 300, 87);
        isAt(x, 1, SkyLanes.DOWN, 300, 93);
        due.is("its path", x.ofPath(1, 0), SkyLanes.BROKEN);
        due.is("it has none", x.ofMachine(1, 5), SkyLanes.NONE);
        due.is("down", x.count(3), 2);
        due.is("as others were there", x.count(4), 2);
    }

    /** At two places in one step: they all count. */
    private static void togetherAtTwoPlaces() {
        SkyLanes x = Draft.city(0, 90);
        for (int i = 0; i < 2; i++) {
            x.machine(1 + i, 0, 100);
            x.machine(1 + i, 90, 100);
        }
        Draft.file(x, "U1 E2 W2 D1", 1, 1, 0);
        Draft.file(x, "U1 E2 W2 D1", 2, 1, 0);
        x.tick(4);
        x.lose(1);
        x.lose(2);
        due.is("at 300 at 10", Draft.file(x, "U3 D3", 3, 7, 0), 2);
        due.is("at 390 at 10", Draft.file(x, "U3 D3", 4, 7, 0), 3);
        x.tick(5);
        due.is("none yet", x.count(3), 0);
        x.tick(1);
        for (int m = 1; m <= 4; m++) {
            due.is("down " + m, x.ofMachine(m, 0), SkyLanes.DOWN);
            due.is("the layer of " + m, x.ofMachine(m, 2), 3);
            due.is("the cell of " + m, x.ofMachine(m, 1), m % 2 == 1 ? 0 : 90);
        }
        due.is("down", x.count(3), 4);
        due.is("as others were there", x.count(4), 4);
        due.is("the first is parked", x.ofMachine(0, 0), SkyLanes.PARKED);
    }

    /** Not on the ground, not in another layer, not as they change places. */
    private static void notTogether() {
        SkyLanes x = comesDown(100);
        due.is("up through it", Draft.file(x, "U2 .1 U1 D3", 1, 7, 0), 1);
        due.is("on the ground", Draft.file(x, ".10 .10", 2, 5, 0), 2);
        x.tick(6);
        isAt(x, 0, SkyLanes.LOST, 300, 87);
        isAt(x, 1, SkyLanes.FLIES, 200, 95);
        x.tick(1);
        isAt(x, 0, SkyLanes.LOST, 200, 86);
        isAt(x, 1, SkyLanes.FLIES, 300, 93);
        x.tick(2);
        isAt(x, 0, SkyLanes.PARKED, 0, 84);
        isAt(x, 1, SkyLanes.FLIES, 100, 91);
        isAt(x, 2, SkyLanes.FLIES, 0, 100);
        x.tick(1);
        isAt(x, 1, SkyLanes.PARKED, 0, 90);
        due.is("none is down", x.count(3), 0);
        due.is("nor as others were there", x.count(4), 0);
    }

    /** One that is DOWN stays where it is, and is at nobody's place. */
    private static void downForGood() {
        SkyLanes x = weak("U1 .6 D1");
        x.machine(1, 0, 100);
        x.gust(1, 5);
        x.tick(4);
        isAt(x, 0, SkyLanes.DOWN, 100, -6);
        x.gust(1, 0);
        due.is("through it", Draft.file(x, "U1 .3 D1", 1, 7, 0), 1);
        x.tick(3);
        isAt(x, 1, SkyLanes.FLIES, 100, 97);
        isAt(x, 0, SkyLanes.DOWN, 100, -6);
        x.tick(40);
        isAt(x, 0, SkyLanes.DOWN, 100, -6);
        isAt(x, 1, SkyLanes.PARKED, 0, 100);
        due.is("down", x.count(3), 1);
        due.badState("not to be lost", x, () -> x.lose(0));
        due.is("by no other", x.count(4), 0);
    }

    /** "paths that are at their last place have ENDED, their machines are PARKED there" */
    private static void endsAtItsLastPlace() {
        SkyLanes x = Draft.city(0, 1);
        Draft.file(x, "U1 E1 D1 .1", 0, 1, 0);
        x.tick(4);
        isAt(x, 0, SkyLanes.FLIES, 1, 96);
        due.is("its path flies", x.ofPath(0, 0), SkyLanes.FLIES);
        x.tick(1);
        isAt(x, 0, SkyLanes.PARKED, 1, 96);
        due.is("its path ended", x.ofPath(0, 0), SkyLanes.ENDED);
        due.is("it has none", x.ofMachine(0, 5), SkyLanes.NONE);
        x.tick(1);
        isAt(x, 0, SkyLanes.PARKED, 1, 100);
        due.is("from there", Draft.file(x, "U1 W1 D1", 0, 7, 0), 1);
        due.is("its first place", x.placeAt(1, 7), 1);
    }

    /** "IndexOutOfBoundsException if there is no such machine" */
    private static void loseRanges() {
        SkyLanes x = Draft.city(0);
        for (int machine : new int[] {-1, 1, 10, Integer.MIN_VALUE, Integer.MAX_VALUE}) {
            due.outside("lose(" + machine + ")", x, () -> x.lose(machine));
        }
    }

    /** "IllegalStateException if it does not FLY, or is on the ground" */
    private static void loseStates() {
        SkyLanes x = Draft.city(0);
        due.badState("parked", x, () -> x.lose(0));
        Draft.file(x, ".1 U1 D1 .1 U1 .1 D1", 0, 2, 0);
        due.badState("its path waits", x, () -> x.lose(0));
        x.tick(2);
        due.badState("at the place 0", x, () -> x.lose(0));
        x.tick(1);
        due.badState("on the ground ahead", x, () -> x.lose(0));
        x.tick(2);
        due.badState("on the ground between", x, () -> x.lose(0));
        x.tick(2);
        due.is("in the air", x.lose(0), 0);
        due.badState("lost", x, () -> x.lose(0));
        due.is("its path", x.ofPath(0, 0), SkyLanes.BROKEN);
        due.is("withdrawn", x.count(2), 0);
        x.tick(1);
        due.badState("home", x, () -> x.lose(0));
    }

    private static void loseInEachLayer() {
        for (int layer = 1; layer <= 3; layer++) {
            SkyLanes x = Draft.city(50);
            Draft.file(x, "U" + layer + " E1 W1 D" + layer, 0, 1, 0);
            x.tick(2 + layer);
            isAt(x, 0, SkyLanes.FLIES, 100 * layer + 51, 100 - 2 * layer - 1);
            due.is("lost", x.lose(0), 50);
            isAt(x, 0, SkyLanes.LOST, 100 * layer + 51, 100 - 2 * layer - 1);
            for (int up = layer + 1; up <= 4; up++) {
                x.tick(1);
                isAt(x, 0, SkyLanes.LOST, 100 * up + 51, 100 - 2 * up - 1);
            }
            x.tick(1);
            isAt(x, 0, SkyLanes.LOST, 450, 90);
            for (int down = 3; down >= 1; down--) {
                x.tick(1);
                isAt(x, 0, SkyLanes.LOST, 100 * down + 50, 90 - (4 - down));
            }
            x.tick(1);
            isAt(x, 0, SkyLanes.PARKED, 50, 86);
        }
    }

    /** "above that it goes DOWN": from where it is, not by the layer 4. */
    private static void aboveTheSpotItGoesDown() {
        for (int layer = 1; layer <= 3; layer++) {
            SkyLanes x = Draft.city(50);
            Draft.file(x, "U" + layer + " .2 D" + layer, 0, 1, 0);
            x.tick(1 + layer);
            due.is("lost above it", x.lose(0), 50);
            for (int down = layer - 1; down >= 1; down--) {
                x.tick(1);
                isAt(x, 0, SkyLanes.LOST, 50 + 100 * down, 100 - 2 * layer - (layer - down));
            }
            x.tick(1);
            isAt(x, 0, SkyLanes.PARKED, 50, 100 - 3 * layer);
        }
    }

    private static void goesHome(String moves, int flown, int start, int... places) {
        SkyLanes x = Draft.city(start);
        due.is("accepted", Draft.file(x, moves, 0, 1, 0), 0);
        x.tick(1 + flown);
        due.is("lost", x.lose(0), start);
        for (int place : places) {
            x.tick(1);
            due.is("at " + x.time() + " of " + moves, 100 * x.ofMachine(0, 2) + x.ofMachine(0, 1), place);
        }
    }

    /** "otherwise UP below the layer 4, there along x, then along y" */
    private static void upThenXThenY() {
        goesHome("U1 E2 S2 W2 N2 D1", 5, 44, 266, 366, 466, 465, 464, 454, 444, 344, 244, 144, 44);
        goesHome("U1 W2 S2 E2 N2 D1", 5, 44, 262, 362, 462, 463, 464, 454, 444, 344);
        goesHome("U1 E2 N2 W2 S2 D1", 5, 44, 226, 326, 426, 425, 424, 434, 444, 344);
        goesHome("U3 W2 N2 E2 S2 D3", 7, 44, 422, 423, 424, 434, 444, 344);
        goesHome("U2 E1 W1 D2", 3, 44, 345, 445, 444, 344);
        goesHome("U2 S1 N1 D2", 3, 44, 354, 454, 444, 344);
        goesHome("U2 N1 S1 D2", 3, 44, 334, 434, 444, 344);
    }

    /** "to the spot that the way home from its cell was to then": a later spot on its way is none for it. */
    private static void theSpotOfThen() {
        SkyLanes x = Draft.city(50);
        Draft.file(x, "U1 E4 W4 D1", 0, 1, 0);
        x.tick(6);
        due.is("lost at 54", x.lose(0), 50);
        x.spot(54);
        x.spot(52);
        x.spot(4);
        due.is("it is home at 54", x.home(54), 0);
        int[] places = {254, 354, 454, 453, 452, 451, 450, 350, 250, 150, 50};
        for (int place : places) {
            x.tick(1);
            due.is("at " + x.time(), 100 * x.ofMachine(0, 2) + x.ofMachine(0, 1), place);
        }
        due.is("it is parked", x.ofMachine(0, 0), SkyLanes.PARKED);
    }

    /** "of these, those whose battery is below 0 are DOWN where they are, on the ground, too": those that are LOST. */
    private static void homeBelow0() {
        SkyLanes x = weak("U1 .6 D1");
        x.gust(1, 5);
        x.tick(3);
        isAt(x, 0, SkyLanes.FLIES, 100, 0);
        x.lose(0);
        x.tick(1);
        isAt(x, 0, SkyLanes.DOWN, 0, -1);
        due.is("down", x.count(3), 1);
        SkyLanes y = weak("U1 .6 D1");
        y.gust(1, 5);
        y.tick(2);
        y.gust(1, 4);
        y.tick(1);
        isAt(y, 0, SkyLanes.FLIES, 100, 1);
        y.lose(0);
        y.tick(1);
        isAt(y, 0, SkyLanes.PARKED, 0, 0);
        y.tick(1);
        isAt(y, 0, SkyLanes.PARKED, 0, 5);
    }

    /** "those that are LOST go home, and take likewise": the gust, and not the wind. */
    private static void homeByTheGust() {
        SkyLanes x = Draft.city(50);
        Draft.file(x, "U1 E1 W1 D1", 0, 1, 0);
        x.tick(3);
        x.lose(0);
        x.wind(1, 3);
        x.wind(2, 3);
        x.wind(3, 3);
        x.gust(1, 1);
        x.gust(2, 2);
        x.gust(3, 4);
        int[] places = {251, 351, 451, 450, 350, 250, 150};
        int[] take = {2 + 2, 2 + 4, 2 + 4, 1 + 4, 1 + 4, 1 + 2, 1 + 1};
        int left = 97;
        for (int i = 0; i < places.length; i++) {
            x.tick(1);
            left -= take[i];
            isAt(x, 0, SkyLanes.LOST, places[i], left);
        }
        x.tick(1);
        isAt(x, 0, SkyLanes.PARKED, 50, left - 1);
    }
}
