/** Promises 15 to 17: steps of time, machines whose link is lost, and holding. */
public final class TimeTest {
    private static final Due due = new Due();

    public static void main(String[] args) {
        tickRanges();
        tickToTheLastTime();
        tickCharges();
        tickFlies();
        downInTheAir();
        downOnTheGround();
        downTogether();
        threeTogether();
        lostBehindAnother();
        notTogether();
        loseRefused();
        loseGoesHome();
        loseAboveTheSpot();
        loseToTheSpotOfThen();
        loseDown();
        holdRefused();
        holdAnswers();
        holdLength();
        holdRooms();
        holdMeets();
        holdBattery();
        due.end();
    }

    /** State, cell, layer and battery of a machine. */
    private static void isAt(SkyLanes x, int machine, int state, int cell, int layer, int battery) {
        String name = "machine " + machine + " at " + x.time() + ": ";
        due.is(name + "state", x.ofMachine(machine, 0), state);
        due.is(name + "cell", x.ofMachine(machine, 1), cell);
        due.is(name + "layer", x.ofMachine(machine, 2), layer);
        due.is(name + "battery", x.ofMachine(machine, 3), battery);
    }

    private static void tickRanges() {
        SkyLanes x = Draft.city(0);
        due.badArgument("tick(0)", x, () -> x.tick(0));
        due.badArgument("tick(-1)", x, () -> x.tick(-1));
        due.badArgument("tick(51)", x, () -> x.tick(51));
        due.badArgument("tick of very many", x, () -> x.tick(Integer.MAX_VALUE));
        due.is("tick(1)", x.tick(1), 1);
        due.is("tick(50)", x.tick(50), 51);
        due.is("tick(49)", x.tick(49), 100);
    }

    private static void tickToTheLastTime() {
        SkyLanes x = Draft.city(0);
        for (int i = 1; i < 400; i++) {
            due.is("tick " + i, x.tick(50), 50 * i);
        }
        due.is("ahead of the last one", x.tick(49), 19999);
        due.badState("two more", x, () -> x.tick(2));
        due.badArgument("far too many", x, () -> x.tick(51));
        due.is("the last one", x.tick(1), 20000);
        due.badState("one more", x, () -> x.tick(1));
        due.is("behind it one may file", Draft.file(x, "U1 D1", 0, 20200, 0), 0);
    }

    private static void tickCharges() {
        SkyLanes x = Draft.city(0);
        x.gust(1, 5);
        Draft.file(x, "U1 .3 D1", 0, 1, 0);
        x.tick(6);
        isAt(x, 0, SkyLanes.PARKED, 0, 0, 100 - 7 - 18 - 1);
        x.tick(1);
        isAt(x, 0, SkyLanes.PARKED, 0, 0, 79);
        x.tick(4);
        isAt(x, 0, SkyLanes.PARKED, 0, 0, 99);
        x.tick(1);
        isAt(x, 0, SkyLanes.PARKED, 0, 0, 100);
        x.gust(1, 0);
        Draft.file(x, "U1 .3 D1", 0, 13, 0);
        x.tick(6);
        isAt(x, 0, SkyLanes.PARKED, 0, 0, 94);
        Draft.file(x, ".2 U1 D1", 0, 19, 0);
        x.tick(1);
        isAt(x, 0, SkyLanes.FLIES, 0, 0, 99);
        x.tick(2);
        isAt(x, 0, SkyLanes.FLIES, 0, 0, 99);
        x.tick(2);
        isAt(x, 0, SkyLanes.PARKED, 0, 0, 96);
    }

    private static void tickFlies() {
        SkyLanes x = Draft.city(0, 2);
        x.wind(1, 3);
        x.gust(1, 1);
        Draft.file(x, "U1 E1 .1 E1 D1 .1", 0, 3, 1);
        x.tick(2);
        isAt(x, 0, SkyLanes.PARKED, 0, 0, 100);
        due.is("it waits", x.ofPath(0, 0), SkyLanes.WAITS);
        x.tick(1);
        isAt(x, 0, SkyLanes.FLIES, 0, 0, 100);
        due.is("it flies", x.ofPath(0, 0), SkyLanes.FLIES);
        due.is("its path", x.ofMachine(0, 5), 0);
        x.tick(1);
        isAt(x, 0, SkyLanes.FLIES, 0, 1, 97);
        x.tick(1);
        isAt(x, 0, SkyLanes.FLIES, 1, 1, 95);
        x.tick(1);
        isAt(x, 0, SkyLanes.FLIES, 1, 1, 93);
        x.tick(1);
        isAt(x, 0, SkyLanes.FLIES, 2, 1, 91);
        x.tick(1);
        isAt(x, 0, SkyLanes.FLIES, 2, 0, 90);
        x.tick(1);
        isAt(x, 0, SkyLanes.PARKED, 2, 0, 90);
        due.is("it ended", x.ofPath(0, 0), SkyLanes.ENDED);
        due.is("it has no path", x.ofMachine(0, 5), SkyLanes.NONE);
        due.is("when it ended", x.ofPath(0, 3), 9);
        SkyLanes y = Draft.city(0, 2);
        y.gust(1, 1);
        Draft.file(y, "U1 E1 .1 E1 D1 .1", 0, 3, 1);
        due.is("all at once", y.tick(9), 9);
        isAt(y, 0, SkyLanes.PARKED, 2, 0, 90);
    }

    /** A machine that hovers above a spot from 30, 7 and then 6 being taken by each move: 23, 17, 11, 5. */
    private static SkyLanes weak(String moves) {
        SkyLanes x = new SkyLanes();
        x.spot(0);
        x.machine(0, 0, 30);
        x.gust(1, 5);
        Draft.file(x, moves, 0, 1, 0);
        x.tick(5);
        return x;
    }

    private static void downInTheAir() {
        SkyLanes x = weak("U1 .5 D1");
        isAt(x, 0, SkyLanes.FLIES, 0, 1, 5);
        due.is("it flies", x.ofPath(0, 0), SkyLanes.FLIES);
        x.tick(1);
        isAt(x, 0, SkyLanes.DOWN, 0, 1, -1);
        due.is("it is broken", x.ofPath(0, 0), SkyLanes.BROKEN);
        due.is("it has no path", x.ofMachine(0, 5), SkyLanes.NONE);
        due.is("down", x.count(3), 1);
        due.is("but not together", x.count(4), 0);
        x.tick(50);
        isAt(x, 0, SkyLanes.DOWN, 0, 1, -1);
    }

    private static void downOnTheGround() {
        SkyLanes x = weak("U1 .4 D1");
        x.gust(1, 4);
        x.tick(1);
        isAt(x, 0, SkyLanes.FLIES, 0, 1, 0);
        x.tick(1);
        isAt(x, 0, SkyLanes.DOWN, 0, 0, -1);
        due.is("it is broken", x.ofPath(0, 0), SkyLanes.BROKEN);
        due.is("down", x.count(3), 1);
        x.tick(5);
        isAt(x, 0, SkyLanes.DOWN, 0, 0, -1);
        SkyLanes y = weak("U1 .4 D1");
        y.gust(1, 3);
        y.tick(2);
        isAt(y, 0, SkyLanes.PARKED, 0, 0, 0);
        due.is("it ended", y.ofPath(0, 0), SkyLanes.ENDED);
        y.tick(1);
        isAt(y, 0, SkyLanes.PARKED, 0, 0, 5);
    }

    /** The machine 0 is lost at 102 at 4, and is above the spot 0 from 9: 400, 300, 200, and at 12 at 100. */
    private static SkyLanes comesDown(int others) {
        SkyLanes x = Draft.city(0, 9);
        for (int i = 0; i < others; i++) {
            x.machine(1 + i, 0, 50);
        }
        Draft.file(x, "U1 E2 W2 D1", 0, 1, 0);
        x.tick(4);
        x.lose(0);
        return x;
    }

    private static void downTogether() {
        SkyLanes x = comesDown(1);
        due.is("another", Draft.file(x, "U1 .5 D1", 1, 10, 0), 1);
        x.tick(6);
        isAt(x, 0, SkyLanes.LOST, 0, 3, 100 - 2 - 2 - 6 - 2 - 1);
        due.is("it flies ahead", x.ofPath(1, 0), SkyLanes.FLIES);
        x.tick(1);
        isAt(x, 1, SkyLanes.FLIES, 0, 1, 48);
        x.tick(1);
        isAt(x, 0, SkyLanes.DOWN, 0, 1, 85);
        isAt(x, 1, SkyLanes.DOWN, 0, 1, 47);
        due.is("it is broken", x.ofPath(1, 0), SkyLanes.BROKEN);
        due.is("down", x.count(3), 2);
        due.is("down together", x.count(4), 2);
        x.tick(9);
        due.is("down for good", x.count(3), 2);
        due.is("one more may come there", x.machine(2, 0, 100), 2);
        due.is("through them", Draft.file(x, "U1 .1 D1", 2, 22, 0), 2);
        x.tick(4);
        isAt(x, 2, SkyLanes.PARKED, 0, 0, 96);
        due.is("those that are down bring none down", x.count(4), 2);
    }

    private static void threeTogether() {
        SkyLanes x = Draft.city(45);
        x.machine(1, 45, 100);
        x.machine(2, 45, 100);
        Draft.file(x, "U1 W2 .10 E2 D1", 0, 1, 0);
        Draft.file(x, "U1 E2 .10 W2 D1", 1, 4, 0);
        Draft.file(x, "U1 N2 .10 S2 D1", 2, 7, 0);
        x.tick(10);
        for (int m = 0; m < 3; m++) {
            due.is("lost " + m, x.lose(m), 45);
        }
        x.tick(4);
        due.is("beside one another", x.count(3), 0);
        x.tick(1);
        for (int m = 0; m < 3; m++) {
            due.is("down " + m, x.ofMachine(m, 0), SkyLanes.DOWN);
            due.is("in the layer " + m, x.ofMachine(m, 2), 4);
        }
        due.is("down", x.count(3), 3);
        due.is("down together", x.count(4), 3);
    }

    private static void lostBehindAnother() {
        SkyLanes x = Draft.city(0, 9);
        x.machine(1, 0, 100);
        x.machine(2, 0, 100);
        Draft.file(x, "U1 E1 W1 D1", 0, 1, 0);
        Draft.file(x, "U1 .1 U1 .8 D2", 1, 8, 0);
        x.tick(3);
        due.is("lost", x.lose(0), 0);
        x.tick(6);
        due.is("another lost", x.lose(1), 0);
        isAt(x, 0, SkyLanes.LOST, 0, 2, 100 - 2 - 1 - 6 - 1 - 2);
        isAt(x, 1, SkyLanes.LOST, 0, 1, 98);
        x.tick(1);
        due.is("one at 100, the other on the ground", x.count(4), 0);
        isAt(x, 1, SkyLanes.PARKED, 0, 0, 97);
    }

    private static void notTogether() {
        SkyLanes x = comesDown(2);
        Draft.file(x, "U2 .2 D2", 1, 9, 0);
        Draft.file(x, ".9 .9", 2, 9, 0);
        x.tick(6);
        isAt(x, 0, SkyLanes.LOST, 0, 3, 87);
        isAt(x, 1, SkyLanes.FLIES, 0, 1, 48);
        x.tick(1);
        due.is("both at 200", x.count(4), 2);
        isAt(x, 2, SkyLanes.FLIES, 0, 0, 50);
        SkyLanes y = comesDown(2);
        Draft.file(y, "U1 .1 D1", 1, 8, 0);
        Draft.file(y, ".9 .9", 2, 9, 0);
        y.tick(9);
        isAt(y, 0, SkyLanes.PARKED, 0, 0, 84);
        isAt(y, 1, SkyLanes.PARKED, 0, 0, 50);
        isAt(y, 2, SkyLanes.FLIES, 0, 0, 50);
        due.is("none is down", y.count(3), 0);
    }

    private static void loseRefused() {
        SkyLanes x = Draft.city(0, 9);
        due.outside("lose(-1)", x, () -> x.lose(-1));
        due.outside("lose(1)", x, () -> x.lose(1));
        due.badState("as it is parked", x, () -> x.lose(0));
        Draft.file(x, ".1 U1 E9 D1", 0, 1, 0);
        due.badState("as its path waits", x, () -> x.lose(0));
        x.tick(2);
        due.badState("as it is on the ground", x, () -> x.lose(0));
        x.tick(1);
        due.is("just above it", x.lose(0), 0);
        due.badState("as it is lost", x, () -> x.lose(0));
        x.tick(1);
        due.badState("as it is home", x, () -> x.lose(0));
        SkyLanes y = weak("U1 .5 D1");
        y.tick(1);
        due.badState("as it is down", y, () -> y.lose(0));
    }

    private static void loseGoesHome() {
        SkyLanes x = Draft.city(0, 99);
        Draft.file(x, "U1 E3 S2 N2 W3 D1", 0, 1, 0);
        x.tick(7);
        isAt(x, 0, SkyLanes.FLIES, 23, 1, 93);
        due.is("lose", x.lose(0), 0);
        isAt(x, 0, SkyLanes.LOST, 23, 1, 93);
        due.is("its path is broken", x.ofPath(0, 0), SkyLanes.BROKEN);
        due.is("it has none", x.ofMachine(0, 5), SkyLanes.NONE);
        int[] places = {223, 323, 423, 422, 421, 420, 410, 400, 300, 200, 100};
        int left = 93;
        for (int place : places) {
            x.tick(1);
            left -= place == 223 || place == 323 || place == 423 ? 2 : 1;
            isAt(x, 0, SkyLanes.LOST, place % 100, place / 100, left);
        }
        x.tick(1);
        isAt(x, 0, SkyLanes.PARKED, 0, 0, left - 1);
        x.tick(1);
        isAt(x, 0, SkyLanes.PARKED, 0, 0, left + 4);
        SkyLanes y = Draft.city(99, 0);
        Draft.file(y, "U3 W3 N2 S2 E3 D3", 0, 1, 0);
        y.tick(9);
        isAt(y, 0, SkyLanes.FLIES, 76, 3, 100 - 6 - 5);
        due.is("lose to the other side", y.lose(0), 99);
        int[] back = {476, 477, 478, 479, 489, 499, 399};
        for (int place : back) {
            y.tick(1);
            due.is("on the way back", 100 * y.ofMachine(0, 2) + y.ofMachine(0, 1), place);
        }
    }

    private static void loseAboveTheSpot() {
        SkyLanes x = Draft.city(0, 9);
        Draft.file(x, "U3 E9 D3", 0, 1, 0);
        x.tick(3);
        due.is("above the spot", x.lose(0), 0);
        x.tick(1);
        isAt(x, 0, SkyLanes.LOST, 0, 1, 100 - 4 - 1);
        x.tick(1);
        isAt(x, 0, SkyLanes.PARKED, 0, 0, 94);
        due.is("it may file again", Draft.file(x, "U3 E9 D3", 0, 6, 0), 1);
    }

    private static void loseToTheSpotOfThen() {
        SkyLanes x = Draft.city(4, 0);
        Draft.file(x, "U1 W2 .9 W2 D1", 0, 1, 0);
        x.tick(5);
        due.is("of two the lowest cell", x.lose(0), 0);
        due.is("a spot nearer", x.spot(2), 3);
        x.tick(3);
        isAt(x, 0, SkyLanes.LOST, 2, 4, 100 - 2 - 3 - 6);
        x.tick(1);
        isAt(x, 0, SkyLanes.LOST, 1, 4, 88);
        x.tick(5);
        isAt(x, 0, SkyLanes.PARKED, 0, 0, 83);
    }

    private static void loseDown() {
        SkyLanes x = new SkyLanes();
        x.spot(0);
        x.machine(0, 0, 20);
        Draft.file(x, "U1 E2 W2 D1", 0, 1, 0);
        x.tick(4);
        x.gust(2, 5);
        x.gust(3, 5);
        x.lose(0);
        x.tick(1);
        isAt(x, 0, SkyLanes.LOST, 2, 2, 16 - 7);
        x.tick(1);
        isAt(x, 0, SkyLanes.LOST, 2, 3, 2);
        x.tick(1);
        isAt(x, 0, SkyLanes.DOWN, 2, 4, -5);
        due.is("down", x.count(3), 1);
        due.is("not together", x.count(4), 0);
        SkyLanes y = weak("U1 .5 D1");
        y.gust(1, 4);
        y.tick(1);
        y.lose(0);
        y.tick(1);
        isAt(y, 0, SkyLanes.DOWN, 0, 0, -1);
    }

    private static void holdRefused() {
        SkyLanes x = Draft.city(0, 9);
        due.outside("hold(-1, 1)", x, () -> x.hold(-1, 1));
        due.outside("hold(1, 99)", x, () -> x.hold(1, 99));
        due.badArgument("hold(0, 0)", x, () -> x.hold(0, 0));
        due.badArgument("hold(0, 11)", x, () -> x.hold(0, 11));
        due.badState("as it is parked", x, () -> x.hold(0, 1));
        Draft.file(x, ".1 U1 .1 D1 .1", 0, 1, 0);
        due.badState("as its path waits", x, () -> x.hold(0, 1));
        x.tick(2);
        due.badState("as it is on the ground", x, () -> x.hold(0, 1));
        x.tick(1);
        due.badArgument("hold(0, 11) in the air", x, () -> x.hold(0, 11));
        due.is("hold in the air", x.hold(0, 10), 16);
        x.tick(12);
        due.badState("as it is on the ground again", x, () -> x.hold(0, 1));
        x.tick(1);
        due.is("it ended", x.ofPath(0, 0), SkyLanes.ENDED);
        Draft.file(x, "U1 .1 D1", 0, 20, 0);
        x.tick(5);
        x.lose(0);
        due.badState("as it is lost", x, () -> x.hold(0, 1));
        SkyLanes y = weak("U1 .5 D1");
        y.tick(1);
        due.badState("as it is down", y, () -> y.hold(0, 1));
    }

    private static void holdAnswers() {
        SkyLanes x = Draft.city(0, 9);
        Draft.file(x, "U1 E9 D1", 0, 1, 0);
        x.tick(5);
        due.is("hold", x.hold(0, 3), 15);
        due.is("its end", x.ofPath(0, 3), 15);
        int[] places = {-1, 0, 100, 101, 102, 103, 103, 103, 103, 104, 105, 106, 107, 108, 109, 9, -1};
        for (int time = 0; time < places.length; time++) {
            due.is("place at " + time, x.placeAt(0, time), places[time]);
        }
        x.tick(3);
        isAt(x, 0, SkyLanes.FLIES, 3, 1, 100 - 2 - 6);
        due.is("hold again", x.hold(0, 1), 16);
        x.tick(2);
        isAt(x, 0, SkyLanes.FLIES, 4, 1, 90);
        x.tick(6);
        isAt(x, 0, SkyLanes.PARKED, 9, 0, 84);
        due.is("no refusals", x.count(1), 0);
    }

    private static void holdLength() {
        SkyLanes x = new SkyLanes();
        x.spot(0);
        x.machine(0, 0, 200);
        Draft.file(x, "U1 .10 .10 .10 .8 D1", 0, 1, 0);
        x.tick(2);
        due.is("50", x.hold(0, 10), 51);
        due.is("60", x.hold(0, 10), 61);
        due.is("70", x.hold(0, 10), 71);
        due.is("75", x.hold(0, 5), 76);
        due.badState("81", x, () -> x.hold(0, 6));
        due.is("80", x.hold(0, 5), 81);
        due.badState("81 again", x, () -> x.hold(0, 1));
        x.tick(50);
        x.tick(28);
        isAt(x, 0, SkyLanes.FLIES, 0, 1, 200 - 2 - 78);
        x.tick(1);
        isAt(x, 0, SkyLanes.PARKED, 0, 0, 119);
        SkyLanes y = Draft.city(0);
        Draft.file(y, "U1 D1", 0, 1, 0);
        y.tick(2);
        due.is("a short one", y.hold(0, 10), 13);
    }

    private static void holdRooms() {
        SkyLanes x = Draft.city(0, 9);
        Draft.file(x, "U1 E9 D1", 0, 1, 0);
        x.tick(4);
        x.close(2, 2, 1, 4, 4);
        x.close(2, 2, 1, 8, 8);
        x.close(5, 5, 3, 10, 10);
        due.badState("in a room later on", x, () -> x.hold(0, 3));
        due.badState("in a room where it waits", x, () -> x.hold(0, 4));
        due.is("in none of its later places", x.hold(0, 2), 14);
        due.badState("in the room later on", x, () -> x.hold(0, 1));
        x.open(2);
        due.is("as it was opened", x.hold(0, 1), 15);
        due.badState("in the room where it waits", x, () -> x.hold(0, 1));
        x.open(1);
        x.close(2, 2, 1, 9, 9);
        due.is("as that was opened", x.hold(0, 1), 16);
        x.tick(4);
        isAt(x, 0, SkyLanes.FLIES, 2, 1, 100 - 2 - 6);
        due.badState("in a room at the next time", x, () -> x.hold(0, 1));
    }

    private static void holdMeets() {
        SkyLanes x = Draft.city(0, 9);
        x.machine(1, 0, 100);
        Draft.file(x, "U1 D1", 0, 1, 0);
        Draft.file(x, "U1 .3 D1", 1, 5, 3);
        x.tick(2);
        due.badState("1 apart from one that waits", x, () -> x.hold(0, 3));
        due.is("2 apart", x.hold(0, 2), 5);
        due.is("it waits", x.ofPath(1, 0), SkyLanes.WAITS);
        x.withdraw(1);
        due.is("as it is withdrawn", x.hold(0, 3), 8);
        SkyLanes y = Draft.city(0, 9);
        y.machine(1, 0, 100);
        Draft.file(y, "U1 E9 D1", 0, 1, 3);
        due.is("4 behind", Draft.file(y, "U1 E9 D1", 1, 5, 0), 1);
        y.tick(6);
        due.badState("1 apart from one that flies", y, () -> y.hold(0, 3));
        due.is("2 apart from it", y.hold(0, 2), 14);
        due.is("the one behind waits as well", y.hold(1, 1), 17);
        due.is("so there is room", y.hold(0, 1), 15);
        y.lose(1);
        due.is("one that is lost is no path", y.hold(0, 9), 24);
    }

    private static void holdBattery() {
        SkyLanes x = new SkyLanes();
        x.spot(0);
        x.machine(0, 0, 20);
        Draft.file(x, "U1 D1", 0, 1, 0);
        x.tick(2);
        due.badState("9 left above the spot", x, () -> x.hold(0, 9));
        x.wind(1, 1);
        due.badState("8 left above it, in the wind foretold", x, () -> x.hold(0, 5));
        due.is("10 left", x.hold(0, 4), 7);
        x.wind(1, 0);
        due.is("10 left without wind", x.hold(0, 4), 11);
        due.badState("9 left", x, () -> x.hold(0, 1));
        SkyLanes y = new SkyLanes();
        y.spot(0);
        y.spot(4);
        y.machine(0, 0, 20);
        Draft.file(y, "U1 E4 D1", 0, 1, 0);
        y.tick(3);
        isAt(y, 0, SkyLanes.FLIES, 1, 1, 17);
        due.badState("the place that is farthest counts", y, () -> y.hold(0, 5));
        due.is("12 left 2 from home", y.hold(0, 4), 11);
        due.is("its end", y.ofPath(0, 3), 11);
        y.gust(1, 5);
        y.tick(1);
        isAt(y, 0, SkyLanes.FLIES, 1, 1, 11);
        due.badState("by the battery now", y, () -> y.hold(0, 1));
    }
}
