/** The boundary cases of holding, the promise 17; each test quotes its sentence. */
public final class HoldEdgesTest {
    private static final Due due = new Due();

    public static void main(String[] args) {
        steps1To10();
        machines();
        statesOfMachines();
        onTheGround();
        behindThePlaceOfNow();
        heldAtTheLastPlaceInTheAir();
        eightyMoves();
        roomsLaterOn();
        roomsOfNow();
        meetsNone();
        meetsByPlacesOfNow();
        meetsWhateverTheUrgency();
        batteryOf10();
        batteryFarFromHome();
        batteryOnTheGround();
        batteryByWindAndNow();
        refusedChangesNothing();
        due.end();
    }

    private static SkyLanes flies(String moves, int steps) {
        SkyLanes x = Draft.city(0, 9);
        due.is("accepted", Draft.file(x, moves, 0, 1, 0), 0);
        x.tick(1 + steps);
        return x;
    }

    /** "steps: 1 to 10", "Returns when its path ends then." */
    private static void steps1To10() {
        for (int steps = 1; steps <= 10; steps++) {
            SkyLanes x = flies("U1 E9 D1", 4);
            due.is("hold by " + steps, x.hold(0, steps), 12 + steps);
            due.is("its end", x.ofPath(0, 3), 12 + steps);
            x.tick(7 + steps);
            due.is("it has ended", x.ofPath(0, 0), SkyLanes.ENDED);
        }
        SkyLanes x = flies("U1 E9 D1", 4);
        for (int steps : new int[] {0, 11, -1, Integer.MIN_VALUE, Integer.MAX_VALUE}) {
            due.badArgument("hold by " + steps, x, () -> x.hold(0, steps));
        }
        due.is("its end stays", x.ofPath(0, 3), 12);
    }

    /** "IndexOutOfBoundsException if there is no such machine" */
    private static void machines() {
        SkyLanes x = flies("U1 E9 D1", 4);
        for (int machine : new int[] {-1, 1, 10, Integer.MIN_VALUE, Integer.MAX_VALUE}) {
            due.outside("hold of " + machine, x, () -> x.hold(machine, 1));
        }
    }

    /** "IllegalStateException if it does not FLY": PARKED, LOST or DOWN. */
    private static void statesOfMachines() {
        SkyLanes x = Draft.city(0, 9);
        x.machine(1, 9, 20);
        due.badState("parked", x, () -> x.hold(0, 1));
        Draft.file(x, "U1 E3 W3 D1", 0, 3, 0);
        Draft.file(x, "U1 .8 D1", 1, 3, 0);
        due.badState("its path waits", x, () -> x.hold(0, 1));
        x.tick(5);
        x.lose(0);
        due.badState("lost", x, () -> x.hold(0, 1));
        x.gust(1, 5);
        x.tick(5);
        due.is("down", x.ofMachine(1, 0), SkyLanes.DOWN);
        due.badState("down", x, () -> x.hold(1, 1));
    }

    /** "where its machine is above the ground": not at the place 0, nor on the ground between or behind. */
    private static void onTheGround() {
        SkyLanes x = flies(".1 U1 .1 D1 .1 U1 D1", 0);
        due.badState("at the place 0", x, () -> x.hold(0, 1));
        x.tick(1);
        due.badState("at the place 1", x, () -> x.hold(0, 1));
        x.tick(1);
        due.is("at the place 2", x.hold(0, 1), 9);
        x.tick(3);
        due.badState("on the ground between", x, () -> x.hold(0, 1));
        x.tick(2);
        due.is("in the air again", x.hold(0, 1), 10);
        x.tick(2);
        due.badState("at its end", x, () -> x.hold(0, 1));
    }

    /** "so many WAITs come behind the place of now" */
    private static void behindThePlaceOfNow() {
        for (int steps = 1; steps <= 9; steps++) {
            SkyLanes x = flies("U1 E2 U1 E4 W6 D2", steps);
            int[] before = new int[40];
            for (int time = 0; time < 20; time++) {
                before[time] = x.placeAt(0, time);
            }
            int end = x.ofPath(0, 3);
            due.is("hold", x.hold(0, 3), end + 3);
            int now = x.time();
            for (int time = 0; time <= now; time++) {
                due.is("the place at " + time, x.placeAt(0, time), before[time]);
            }
            for (int time = now; time <= now + 3; time++) {
                due.is("it waits at " + time, x.placeAt(0, time), before[now]);
            }
            for (int time = now; time < 20; time++) {
                due.is("3 later than " + time, x.placeAt(0, time + 3), before[time]);
            }
            x.tick(4);
            due.is("where it is", 100 * x.ofMachine(0, 2) + x.ofMachine(0, 1), before[now + 1]);
        }
    }

    /** At its last place in the air, one ahead of its end. */
    private static void heldAtTheLastPlaceInTheAir() {
        SkyLanes x = flies("U1 E9 D1", 10);
        due.is("where it is", x.placeAt(0, 11), 109);
        due.is("hold", x.hold(0, 2), 14);
        x.tick(2);
        due.is("it waits", x.ofMachine(0, 2), 1);
        due.is("hold again", x.hold(0, 1), 15);
        x.tick(2);
        due.is("it has ended", x.ofPath(0, 0), SkyLanes.ENDED);
    }

    /** "if it is no longer than 80 moves then" */
    private static void eightyMoves() {
        for (int steps = 1; steps <= 10; steps++) {
            SkyLanes x = new SkyLanes();
            x.spot(0);
            x.machine(0, 0, 200);
            due.is("of 40 moves", Draft.file(x, "U1 .10 .10 .10 .8 D1", 0, 1, 0), 0);
            x.tick(2);
            int moves = 40;
            while (moves + 10 <= 80 - steps) {
                moves += 10;
                due.is("moves", x.hold(0, 10), 1 + moves);
            }
            if (moves < 80 - steps) {
                due.is("moves", x.hold(0, 80 - steps - moves), 81 - steps);
            }
            int more = steps + 1;
            if (more <= 10) {
                due.badState("81 moves by " + more, x, () -> x.hold(0, more));
            }
            due.is("80 moves by " + steps, x.hold(0, steps), 81);
            due.badState("81 moves", x, () -> x.hold(0, 1));
            due.is("its end", x.ofPath(0, 3), 81);
            due.is("its place at 80", x.placeAt(0, 80), 100);
            due.is("its place at 81", x.placeAt(0, 81), 0);
            due.is("behind it", x.placeAt(0, 82), SkyLanes.NONE);
            x.tick(50);
            x.tick(29);
            due.is("it ends at 81", x.ofPath(0, 0), SkyLanes.ENDED);
        }
    }

    /** "none of its later places is in a closed room": where it waits, and where it comes later then. */
    private static void roomsLaterOn() {
        for (int time = 5; time <= 18; time++) {
            SkyLanes x = flies("U1 E9 D1", 3);
            x.close(2, 2, 1, time, time);
            boolean in = time >= 5 && time <= 7;
            due.is("it is at 102 at 4", x.placeAt(0, 4), 102);
            if (in) {
                due.badState("a room where it is, at " + time, x, () -> x.hold(0, 3));
            } else {
                due.is("a room where it is, at " + time, x.hold(0, 3), 15);
            }
        }
        for (int time = 5; time <= 18; time++) {
            SkyLanes x = flies("U1 E9 D1", 3);
            x.close(5, 5, 1, time, time);
            if (time == 10) {
                due.badState("a room on its way, at 10", x, () -> x.hold(0, 3));
                x.open(0);
            }
            due.is("a room on its way, at " + time, x.hold(0, 3), 15);
        }
    }

    /** "later": not the place of now, nor those that are gone. */
    private static void roomsOfNow() {
        SkyLanes x = flies("U1 E9 D1", 3);
        x.close(0, 99, 3, 0, 4);
        due.is("until now", x.hold(0, 3), 15);
        x.close(0, 1, 3, 0, 1000);
        due.is("where it was", x.hold(0, 1), 16);
        x.close(9, 9, 3, 16, 1000);
        due.is("where it is on the ground", x.ofPath(0, 3), 16);
        due.badState("where it would be in the air", x, () -> x.hold(0, 1));
        x.open(2);
        x.close(9, 9, 3, 17, 1000);
        due.is("where it will be on the ground", x.hold(0, 1), 17);
    }

    /** "it meets no path that FLIES or WAITS": 1 apart, and not 2 apart. */
    private static void meetsNone() {
        for (int steps = 1; steps <= 6; steps++) {
            SkyLanes x = flies("U1 .1 D1", 1);
            x.machine(1, 0, 100);
            due.is("one that waits", Draft.file(x, "U1 .2 D1", 1, 8, 3), 1);
            int s = steps;
            if (3 + s < 8) {
                due.is("held until " + (3 + s), x.hold(0, s), 4 + s);
            } else {
                due.badState("held until " + (3 + s), x, () -> x.hold(0, s));
                x.withdraw(1);
                due.is("as that is withdrawn", x.hold(0, s), 4 + s);
            }
        }
        SkyLanes y = Draft.city(0, 9);
        y.machine(1, 0, 100);
        Draft.file(y, "U1 E9 D1", 0, 1, 0);
        Draft.file(y, "U1 E9 D1", 1, 5, 0);
        y.tick(7);
        due.badState("1 ahead of one that flies", y, () -> y.hold(0, 3));
        due.is("2 ahead of it", y.hold(0, 2), 14);
        due.badState("then 1 ahead of it", y, () -> y.hold(0, 1));
        y.lose(1);
        due.is("as that is lost", y.hold(0, 1), 15);
    }

    /** "by places of now and later": one that is where it was, or was where it is, does not matter. */
    private static void meetsByPlacesOfNow() {
        SkyLanes x = Draft.city(0, 9);
        x.machine(1, 0, 100);
        Draft.file(x, "U1 E9 D1", 0, 1, 0);
        Draft.file(x, "U1 E9 D1", 1, 3, 0);
        x.tick(8);
        due.is("the one ahead", x.placeAt(0, 8), 106);
        due.is("the one behind", x.placeAt(1, 8), 104);
        due.badState("held, it would be met 1 apart", x, () -> x.hold(0, 1));
        due.is("the one behind is held", x.hold(1, 10), 24);
        due.is("then the one ahead is", x.hold(0, 10), 22);
        due.is("they do not meet", x.meets(0, 1), false);
        due.is("found anew", x.meetsAnew(0, 1), false);
        x.tick(20);
        due.is("none is down", x.count(3), 0);
    }

    /** No path gives way to one that is held. */
    private static void meetsWhateverTheUrgency() {
        for (int urgency = 0; urgency <= 3; urgency++) {
            SkyLanes x = Draft.city(0);
            x.machine(1, 0, 100);
            Draft.file(x, "U1 D1", 0, 1, 0);
            Draft.file(x, "U1 D1", 1, 8, urgency);
            x.tick(2);
            due.badState("against " + urgency, x, () -> x.hold(0, 6));
            due.is("it waits", x.ofPath(1, 0), SkyLanes.WAITS);
            due.is("its end stays", x.ofPath(0, 3), 3);
            due.is("2 apart", x.hold(0, 5), 8);
        }
    }

    private static SkyLanes weak(int full, String moves, int steps, int... spots) {
        SkyLanes x = new SkyLanes();
        for (int cell : spots) {
            x.spot(cell);
        }
        x.machine(0, spots[0], full);
        due.is("accepted", Draft.file(x, moves, 0, 1, 0), 0);
        x.tick(1 + steps);
        return x;
    }

    /** "at none of its later places less is left ... than the way home and 10" */
    private static void batteryOf10() {
        for (int full = 20; full <= 22; full++) {
            int most = full - 12;
            SkyLanes x = weak(full, "U1 D1", 1, 0);
            if (most < 10) {
                due.badState("9 left of " + full, x, () -> x.hold(0, most + 1));
            }
            due.is("10 left of " + full, x.hold(0, most), 3 + most);
            due.badState("9 left then of " + full, x, () -> x.hold(0, 1));
            x.tick(1 + most);
            due.is("it has ended", x.ofPath(0, 0), SkyLanes.ENDED);
            due.is("what is left", x.ofMachine(0, 3), 9);
        }
    }

    /** "the way home": of each later place, not of the place of now alone. */
    private static void batteryFarFromHome() {
        SkyLanes x = weak(20, "U1 E4 D1", 1, 0, 4);
        due.badState("18 less 5 at home; 11 at 2, of 12", x, () -> x.hold(0, 5));
        due.is("18 less 4 at home; 12 at 2, of 12", x.hold(0, 4), 11);
        SkyLanes y = weak(24, "U1 E3 W3 D1", 4, 0);
        due.is("19 left 3 from home", y.ofMachine(0, 3), 19);
        due.badState("12 left 3 from home", y, () -> y.hold(0, 7));
        due.is("13 left 3 from home, and 10 at home", y.hold(0, 6), 15);
        SkyLanes z = weak(24, "U1 E3 W3 D1", 4, 0);
        z.spot(3);
        due.is("a spot is there now", z.hold(0, 6), 15);
    }

    /** "or, on the ground, than 0" */
    private static void batteryOnTheGround() {
        SkyLanes x = weak(20, "U1 D1 E1 W1 E1 W1 E1 W1 E1 W1 E1 W1 E1 W1 E1", 1, 0, 1);
        due.is("18 left", x.ofMachine(0, 3), 18);
        due.badState("-1 left on the ground", x, () -> x.hold(0, 5));
        due.is("0 left on the ground", x.hold(0, 4), 20);
        x.tick(18);
        due.is("it has ended", x.ofPath(0, 0), SkyLanes.ENDED);
        due.is("0 left", x.ofMachine(0, 3), 0);
    }

    /** "by the battery now and the wind foretold" */
    private static void batteryByWindAndNow() {
        for (int wind = 0; wind <= 3; wind++) {
            SkyLanes x = weak(20, "U1 D1", 1, 0);
            x.wind(1, wind);
            x.gust(1, 5 - wind);
            int most = 8 / (1 + wind);
            due.badState("too many in " + wind, x, () -> x.hold(0, most + 1));
            due.is("as many as may be in " + wind, x.hold(0, most), 3 + most);
        }
        SkyLanes y = weak(30, "U1 .5 D1", 1, 0);
        y.gust(1, 5);
        y.tick(1);
        due.is("22 left", y.ofMachine(0, 3), 22);
        y.gust(1, 0);
        due.badState("9 left", y, () -> y.hold(0, 9));
        due.is("10 left, 8 held and 4 of its own", y.hold(0, 8), 16);
    }

    /** "A call that throws an exception changes nothing." */
    private static void refusedChangesNothing() {
        SkyLanes x = Draft.city(0, 9);
        x.machine(1, 0, 100);
        Draft.file(x, "U1 E9 D1", 0, 1, 0);
        Draft.file(x, "U1 E9 D1", 1, 8, 0);
        x.tick(3);
        x.move(5, 1);
        String before = Snapshot.of(x);
        due.badState("it meets the other", x, () -> x.hold(0, 6));
        due.badArgument("no steps", x, () -> x.hold(0, 0));
        due.same("all is as it was", Snapshot.of(x), before);
        due.is("the draft", x.clear(), 1);
        due.is("the refusals", x.count(1), 0);
        due.is("held", x.hold(0, 5), 17);
    }
}
