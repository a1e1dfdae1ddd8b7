/** The boundary cases of the reasons of refusals and of the promise 12; each test quotes its sentence. */
public final class FileEdgesTest {
    private static final Due due = new Due();

    public static void main(String[] args) {
        timesToBegin();
        urgencies();
        fortyPaths();
        refusedOnesTakeNoNumber();
        busyAsItIsNotParked();
        busyAsOneWaits();
        notBusy();
        fullOfThree();
        fullOfThoseThatWait();
        wayOfEachKind();
        wayOfTheLowestPlace();
        wayOfTheEnd();
        batteryInTheAir();
        batteryFarFromHome();
        batteryOnTheGround();
        batteryAtItsBeginning();
        batteryAtMostFull();
        batteryByTheWindForetold();
        roomOfTheLowestNumber();
        meetsOneThatFlies();
        meetsOneThatWaits();
        meetsTheLowest();
        meetsOneApart();
        theFirstReason();
        thoseThatWaitAreWithdrawn();
        thoseThatAreOverStay();
        theDraftIsEmpty();
        due.end();
    }

    private static void is(String name, SkyLanes x, int got, int reason, int cause) {
        due.is(name, got, -reason);
        due.is(name + ": why", x.why(), cause);
    }

    /** "when it begins: the next time to 200 from now on" */
    private static void timesToBegin() {
        for (int now : new int[] {0, 1, 50}) {
            SkyLanes x = Draft.city(0);
            if (now > 0) {
                x.tick(now);
            }
            Draft.put(x, "U1 D1");
            for (int time : new int[] {now, now - 1, now + 201, Integer.MIN_VALUE, Integer.MAX_VALUE}) {
                due.badArgument("the time " + time + " at " + now, x, () -> x.file(0, time, 0));
            }
            due.is("200 from " + now, x.file(0, now + 200, 0), 0);
            due.is("it begins", x.ofPath(0, 2), now + 200);
            x.withdraw(0);
            due.is("the next time", Draft.file(x, "U1 D1", 0, now + 1, 0), 1);
            x.tick(1);
            due.is("it flies", x.ofPath(1, 0), SkyLanes.FLIES);
        }
    }

    /** "urgency: 0, the most urgent, to 3" */
    private static void urgencies() {
        SkyLanes x = Draft.city(0);
        Draft.put(x, "U1 D1");
        for (int urgency : new int[] {-1, 4, Integer.MIN_VALUE, Integer.MAX_VALUE}) {
            due.badArgument("the urgency " + urgency, x, () -> x.file(0, 1, urgency));
        }
        due.is("the draft stays", x.clear(), 2);
        for (int urgency = 0; urgency <= 3; urgency++) {
            due.is("the urgency " + urgency, Draft.file(x, "U1 D1", 0, 1, urgency), urgency);
            due.is("as told", x.ofPath(urgency, 4), urgency);
            x.withdraw(urgency);
        }
    }

    /** "gets a number, at most 40 from 0 on", "IllegalStateException if there are 40 paths" */
    private static void fortyPaths() {
        SkyLanes x = Draft.city(0);
        for (int i = 0; i < 40; i++) {
            due.is("path " + i, Draft.file(x, "U1 D1", 0, 3, 0), i);
            if (i < 39) {
                x.withdraw(i);
            }
        }
        due.is("the last one waits", x.ofMachine(0, 5), 39);
        due.outside("path 40", x, () -> x.ofPath(40, 0));
        Draft.put(x, "U1 D1");
        due.badState("that would be busy", x, () -> x.file(0, 3, 0));
        x.tick(5);
        due.is("the last one has ended", x.ofPath(39, 0), SkyLanes.ENDED);
        due.badState("that would be accepted", x, () -> x.file(0, 7, 0));
        due.is("the draft stays", x.clear(), 2);
        due.badState("whose way would be refused", x, () -> x.file(0, 7, 0));
        due.badArgument("at no time", x, () -> x.file(0, 5, 0));
        due.outside("of no machine", x, () -> x.file(1, 7, 0));
        due.is("accepted", x.count(0), 40);
        due.is("refusals", x.count(1), 0);
    }

    /** "Returns its number, or, below 0, the reason for which it is refused." */
    private static void refusedOnesTakeNoNumber() {
        SkyLanes x = Draft.city(0);
        for (int i = 1; i <= 3; i++) {
            is("refused " + i, x, Draft.file(x, "U" + i, 0, 1, 0), SkyLanes.WAY, i);
            due.is("refusals", x.count(1), i);
            due.outside("no path", x, () -> x.ofPath(0, 0));
        }
        due.is("accepted", Draft.file(x, "U1 D1", 0, 1, 0), 0);
        due.is("refusals stay", x.count(1), 3);
        due.is("accepted paths", x.count(0), 1);
    }

    /** "BUSY 1, the machine is not PARKED": as it FLIES, on the ground, too, is LOST or DOWN. */
    private static void busyAsItIsNotParked() {
        SkyLanes x = Draft.city(0, 9);
        x.machine(1, 9, 20);
        x.gust(1, 5);
        Draft.file(x, ".1 U1 .8 D1", 1, 1, 0);
        Draft.file(x, ".2 U1 E3 W3 D1", 0, 1, 0);
        x.tick(1);
        Draft.put(x, "U1 D1");
        is("on the ground", x, x.file(0, 2, 0), SkyLanes.BUSY, SkyLanes.NONE);
        x.tick(3);
        is("in the air", x, x.file(0, 100, 3), SkyLanes.BUSY, SkyLanes.NONE);
        x.lose(0);
        is("lost", x, x.file(0, 100, 0), SkyLanes.BUSY, SkyLanes.NONE);
        x.gust(1, 0);
        x.tick(1);
        due.is("home", x.ofMachine(0, 0), SkyLanes.PARKED);
        x.gust(1, 5);
        x.tick(3);
        due.is("down", x.ofMachine(1, 0), SkyLanes.DOWN);
        is("as it is down", x, x.file(1, 100, 0), SkyLanes.BUSY, SkyLanes.NONE);
        due.is("the one that is home", x.file(0, 100, 0), 2);
    }

    /** "or has a path that waits: that path" */
    private static void busyAsOneWaits() {
        SkyLanes x = Draft.city(0, 9, 50);
        x.machine(1, 9, 100);
        x.machine(2, 50, 100);
        for (int m = 0; m < 3; m++) {
            due.is("path " + m, Draft.file(x, "U1 D1", m, 100, 0), m);
        }
        Draft.put(x, "U1 D1");
        for (int m = 0; m < 3; m++) {
            is("busy " + m, x, x.file(m, 50, 0), SkyLanes.BUSY, m);
        }
        x.withdraw(1);
        due.is("filed anew", x.file(1, 50, 0), 3);
        is("its new path", x, x.file(1, 60, 0), SkyLanes.BUSY, 3);
        due.is("refusals", x.count(1), 4);
    }

    /** One whose path is WITHDRAWN, has ENDED or is BROKEN is not busy, as it is PARKED. */
    private static void notBusy() {
        SkyLanes x = Draft.city(0);
        Draft.file(x, "U1 .1 D1", 0, 1, 0);
        x.withdraw(0);
        due.is("as it was withdrawn", Draft.file(x, "U1 .1 D1", 0, 1, 0), 1);
        x.tick(3);
        is("as it flies", x, x.file(0, 5, 0), SkyLanes.BUSY, SkyLanes.NONE);
        x.tick(1);
        due.is("as it ended at this time", Draft.file(x, "U1 .1 D1", 0, 5, 0), 2);
        x.tick(2);
        x.lose(0);
        x.tick(1);
        due.is("as it is home at this time", Draft.file(x, "U1 .1 D1", 0, 8, 0), 3);
    }

    /** "FULL 2, three paths of machines of its firm wait: NONE": of each firm for itself. */
    private static void fullOfThree() {
        for (int firm = 0; firm <= 3; firm++) {
            SkyLanes x = new SkyLanes();
            x.spot(0);
            x.spot(5);
            for (int i = 0; i < 4; i++) {
                x.machine(firm, 0, 100);
                x.machine((firm + 1) % 4, 5, 100);
            }
            for (int i = 0; i < 3; i++) {
                due.is("of the firm", Draft.file(x, "U1 D1", 2 * i, 10 + 5 * i, 0), 2 * i);
                due.is("of another", Draft.file(x, "U1 D1", 2 * i + 1, 10 + 5 * i, 0), 2 * i + 1);
            }
            Draft.put(x, "U1 D1");
            is("the fourth", x, x.file(6, 50, 0), SkyLanes.FULL, SkyLanes.NONE);
            is("the fourth of another", x, x.file(7, 50, 0), SkyLanes.FULL, SkyLanes.NONE);
            x.withdraw(2);
            is("the fourth of another still", x, x.file(7, 50, 0), SkyLanes.FULL, SkyLanes.NONE);
            due.is("as two wait", x.file(6, 50, 0), 6);
        }
    }

    /** "wait": those that FLY, have ENDED, are WITHDRAWN or BROKEN do not count. */
    private static void fullOfThoseThatWait() {
        SkyLanes x = Draft.city(0, 9, 50, 59);
        x.machine(0, 9, 100);
        x.machine(0, 50, 100);
        x.machine(0, 59, 100);
        Draft.file(x, "U1 .9 D1", 0, 3, 0);
        Draft.file(x, "U1 .9 D1", 1, 3, 0);
        Draft.file(x, "U1 .1 D1", 2, 3, 0);
        x.tick(2);
        is("three wait", x, Draft.file(x, "U1 D1", 3, 50, 0), SkyLanes.FULL, SkyLanes.NONE);
        x.tick(3);
        due.is("three fly", x.file(3, 50, 0), 3);
        x.lose(1);
        x.tick(1);
        due.is("one has ended", Draft.file(x, "U1 D1", 2, 50, 0), 4);
        due.is("one is broken", Draft.file(x, "U1 D1", 1, 50, 0), 5);
        x.tick(20);
        is("three wait again", x, Draft.file(x, "U1 D1", 0, 50, 0), SkyLanes.FULL, SkyLanes.NONE);
        x.withdraw(5);
        due.is("one is withdrawn", x.file(0, 50, 0), 6);
    }

    /** City with spots at 0, 9 and 40, a tower of 2 at 4 and of 1 at 41. */
    private static void way(String moves, int where) {
        SkyLanes x = Draft.city(0, 9, 40);
        x.tower(4, 2);
        x.tower(41, 1);
        is("the way " + moves, x, Draft.file(x, moves, 0, 1, 0), SkyLanes.WAY, where);
        due.is("the way " + moves + ": takes", x.takes(0), SkyLanes.NONE);
    }

    /** "a place that is beyond the city, above the layer 3, within a tower, below the ground, or on the ground in a cell that is no spot" */
    private static void wayOfEachKind() {
        way("U1 W1 E1 D1", 2);
        way("U1 N1 S1 D1", 2);
        way("U3 E10 W1 D3", 13);
        way("U1 S10 N1 D1", 11);
        way("U4 D4", 4);
        way("U3 E9 U1 D4", 13);
        way("U2 E9 D2", 6);
        way("U3 E4 D1 U1 E5 D3", 8);
        way("U1 S4 E1 W1 D1", 6);
        way("D1 U1", 1);
        way("U1 D2 U1", 3);
        way("U1 E1 D1 U1 W1 D1", 3);
        way("E1 W1", 1);
        way("S1 N1", 1);
        way(".10 E1", 11);
        SkyLanes x = Draft.city(0, 9, 40);
        x.tower(4, 2);
        due.is("above the tower", Draft.file(x, "U3 E9 D3", 0, 1, 0), 0);
    }

    /** "The cause is the lowest one." */
    private static void wayOfTheLowestPlace() {
        way("U2 E4 N1", 6);
        way("U1 E1 D2 W3", 3);
        way("N1 W1 U4", 1);
        way("U4", 4);
        way("U1 E4", 5);
    }

    /** "or the draft is empty, or does not end on the ground: the place, or the last one" */
    private static void wayOfTheEnd() {
        way("", 0);
        way("U1", 1);
        way(".5 U1", 6);
        way("U3 .10 .10 .10 .7", 40);
        way("U1 D1 U1", 3);
        way("U3 E9 D2", 14);
        SkyLanes x = Draft.city(0);
        due.is("it ends on the ground", Draft.file(x, ".1", 0, 1, 0), 0);
    }

    private static SkyLanes weak(int full, int... spots) {
        SkyLanes x = new SkyLanes();
        for (int cell : spots) {
            x.spot(cell);
        }
        x.machine(0, spots[0], full);
        return x;
    }

    /** "BATTERY 4, a place at which less is left ... than the way home and 10": 10 above a spot. */
    private static void batteryInTheAir() {
        for (int full = 20; full <= 28; full++) {
            SkyLanes x = weak(full, 0);
            int most = full - 2 - 10;
            is("one wait too many of " + full, x, file(x, most + 1, 1), SkyLanes.BATTERY, most + 2);
            due.is("as many as may be of " + full, file(x, most, 1), 0);
        }
    }

    /** "the way home": of the place, to the nearest spot. */
    private static void batteryFarFromHome() {
        SkyLanes x = weak(20, 0);
        is("14 left 4 from home, 13 left 5 from it", x, Draft.file(x, "U1 E5 W5 D1", 0, 1, 0), SkyLanes.BATTERY, 6);
        due.is("14 left 4 from home, then 10 at home", Draft.file(x, "U1 E4 W4 D1", 0, 1, 0), 0);
        SkyLanes y = weak(20, 0, 8);
        due.is("14 left 4 from both", Draft.file(y, "U1 E8 D1", 0, 1, 0), 0);
        SkyLanes z = weak(20, 0, 9);
        is("13 left at 5, 4 from 9; then 12 and 3", z, Draft.file(z, "U1 .1 E9 D1", 0, 1, 0), SkyLanes.BATTERY, 6);
        z.spot(33);
        is("33 is no nearer", z, z.file(0, 1, 0), SkyLanes.BATTERY, 6);
        z.spot(5);
        due.is("5 is, and nine more are 10 left", z.file(0, 1, 0), -SkyLanes.BATTERY);
        due.is("at 7", z.why(), 9);
    }

    /** "or, on the ground, than 0" */
    private static void batteryOnTheGround() {
        for (int moves = 18; moves <= 22; moves++) {
            SkyLanes x = weak(20, 0, 1);
            for (int i = 0; i < moves; i++) {
                x.move(1 + i % 2, 1);
            }
            int got = x.file(0, 1, 0);
            due.is(moves + " moves of 1", got, moves <= 20 ? 0 : -SkyLanes.BATTERY);
            due.is("where, of " + moves, x.why(), moves <= 20 ? SkyLanes.NONE : 21);
        }
        SkyLanes y = weak(20, 0, 1);
        for (int i = 0; i < 20; i++) {
            y.move(1 + i % 2, 1);
        }
        y.move(0, 10);
        y.move(0, 10);
        due.is("with 0 left it waits on", y.file(0, 1, 0), 0);
        y.tick(41);
        due.is("with 0 left it is parked", y.ofMachine(0, 0), SkyLanes.PARKED);
        due.is("0 left", y.ofMachine(0, 3), 0);
        SkyLanes z = weak(20, 0);
        is("on the ground between: 9 left, then 7", z, Draft.file(z, "U1 .8 D1 U1 D1", 0, 1, 0), SkyLanes.BATTERY, 11);
    }

    /** "by what will be in the battery at its beginning": 5 more with each time until then, and with that time. */
    private static void batteryAtItsBeginning() {
        for (int later = 1; later <= 5; later++) {
            SkyLanes x = weak(40, 0);
            due.is("the first", Draft.file(x, "U1 .10 .10 .8 D1", 0, 1, 0), 0);
            x.tick(31);
            due.is("9 left", x.ofMachine(0, 3), 9);
            int at = 9 + 5 * later;
            int waits = at - 2 - 10;
            if (waits < 1) {
                is("with " + at, x, Draft.file(x, "U1 .1 D1", 0, 31 + later, 0), SkyLanes.BATTERY, waits < 0 ? 1 : 2);
                continue;
            }
            is("with " + at + " too many", x, file(x, waits + 1, 31 + later), SkyLanes.BATTERY, waits + 2);
            due.is("with " + at + " as many as may be", file(x, waits, 31 + later), 1);
            x.tick(later);
            due.is("it begins with so much", x.ofMachine(0, 3), at);
            due.is("it flies", x.ofMachine(0, 0), SkyLanes.FLIES);
        }
    }

    private static int file(SkyLanes x, int waits, int time) {
        x.clear();
        x.move(5, 1);
        for (int i = 0; i < waits; i++) {
            x.move(0, 1);
        }
        x.move(6, 1);
        return x.file(0, time, 0);
    }

    /** "5 more in its battery, at most full" */
    private static void batteryAtMostFull() {
        SkyLanes x = weak(23, 0);
        is("full at first", x, file(x, 12, 200), SkyLanes.BATTERY, 13);
        due.is("with 23", file(x, 11, 1), 0);
        x.tick(14);
        due.is("9 left", x.ofMachine(0, 3), 9);
        is("with 19", x, file(x, 8, 16), SkyLanes.BATTERY, 9);
        is("with 23, not 24", x, file(x, 12, 17), SkyLanes.BATTERY, 13);
        is("with 23, not 200", x, file(x, 12, 214), SkyLanes.BATTERY, 13);
        due.is("with 23", file(x, 11, 17), 1);
        x.tick(3);
        due.is("it begins with", x.ofMachine(0, 3), 23);
    }

    /** "and the wind foretold": not the gust. */
    private static void batteryByTheWindForetold() {
        for (int wind = 0; wind <= 3; wind++) {
            SkyLanes x = weak(40, 0);
            x.gust(1, 5);
            x.wind(1, wind);
            int waits = (40 - 10 - 2 - wind) / (1 + wind);
            is("too many in " + wind, x, file(x, waits + 1, 1), SkyLanes.BATTERY, waits + 2);
            due.is("as many as may be in " + wind, file(x, waits, 1), 0);
        }
    }

    /** "ROOM 5, it is in a closed room: the room", "The cause is the lowest one." */
    private static void roomOfTheLowestNumber() {
        SkyLanes x = Draft.city(0, 9);
        x.close(90, 99, 3, 0, 1000);
        x.close(7, 7, 1, 0, 1000);
        x.close(2, 2, 1, 0, 1000);
        x.close(1, 1, 1, 0, 2);
        Draft.put(x, "U1 E9 D1");
        is("in two, the lower one later", x, x.file(0, 1, 0), SkyLanes.ROOM, 1);
        x.open(1);
        is("in one", x, x.file(0, 1, 0), SkyLanes.ROOM, 2);
        x.open(2);
        due.is("in none", x.file(0, 1, 0), 0);
    }

    /** "MEETS 6, it meets a path that FLIES": however urgent it is. */
    private static void meetsOneThatFlies() {
        for (int one = 0; one <= 3; one++) {
            for (int other = 0; other <= 3; other++) {
                SkyLanes x = Draft.city(0);
                x.machine(1, 0, 100);
                Draft.file(x, "U1 .5 D1", 0, 1, one);
                x.tick(1);
                is(other + " against " + one, x, Draft.file(x, "U1 D1", 1, 3, other), SkyLanes.MEETS, 0);
                due.is("it flies on", x.ofPath(0, 0), SkyLanes.FLIES);
                due.is("the draft stays", x.clear(), 2);
            }
        }
    }

    /** "or one that waits and is as urgent or more" */
    private static void meetsOneThatWaits() {
        for (int one = 0; one <= 3; one++) {
            for (int other = 0; other <= 3; other++) {
                SkyLanes x = Draft.city(0);
                x.machine(1, 0, 100);
                Draft.file(x, "U1 .5 D1", 0, 5, one);
                int got = Draft.file(x, "U1 D1", 1, 7, other);
                boolean refused = one <= other;
                is(other + " against " + one, x, refused ? got : -got, refused ? SkyLanes.MEETS : 1, refused ? 0 : SkyLanes.NONE);
                due.is("the one", x.ofPath(0, 0), refused ? SkyLanes.WAITS : SkyLanes.WITHDRAWN);
                due.is("withdrawn", x.count(2), refused ? 0 : 1);
            }
        }
    }

    /** "that path ... The cause is the lowest one": of those to which it gives way, whatever it meets first. */
    private static void meetsTheLowest() {
        SkyLanes x = Draft.city(0);
        x.machine(1, 0, 100);
        x.machine(2, 0, 100);
        x.machine(3, 0, 100);
        Draft.file(x, "U1 D1", 0, 18, 3);
        Draft.file(x, "U1 D1", 1, 15, 1);
        Draft.file(x, "U1 D1", 2, 12, 1);
        is("the lowest that is as urgent", x, Draft.file(x, "U1 .9 D1", 3, 10, 1), SkyLanes.MEETS, 1);
        is("the lowest of all", x, x.file(3, 10, 3), SkyLanes.MEETS, 0);
        due.is("all wait", x.count(2), 0);
        due.is("the most urgent", x.file(3, 10, 0), 3);
        due.is("all are withdrawn", x.count(2), 3);
    }

    /** It meets one 1 apart, and does not 2 apart. */
    private static void meetsOneApart() {
        for (int time = 6; time <= 16; time++) {
            SkyLanes x = Draft.city(0);
            x.machine(1, 0, 100);
            Draft.file(x, "U1 .2 D1", 0, 10, 0);
            int got = Draft.file(x, "U1 D1", 1, time, 0);
            due.is("filed for " + time, got, time >= 9 && time <= 13 ? -SkyLanes.MEETS : 1);
        }
    }

    private static boolean has(int reasons, int reason) {
        return (reasons >> reason & 1) == 1;
    }

    /** A city in which the machine 0 is refused for these reasons, a bit for each, all at once; returns the one told. */
    private static int refusedFor(SkyLanes x, int reasons) {
        for (int cell : new int[] {0, 20, 40, 60}) {
            x.spot(cell);
        }
        x.machine(0, 0, 20);
        x.machine(has(reasons, SkyLanes.FULL) ? 0 : 1, 20, 100);
        x.machine(has(reasons, SkyLanes.FULL) ? 0 : 1, 40, 100);
        x.machine(has(reasons, SkyLanes.FULL) ? 0 : 1, 60, 100);
        x.machine(2, 0, 100);
        if (has(reasons, SkyLanes.MEETS)) {
            Draft.file(x, "U1 D1", 4, 13, 1);
        }
        if (has(reasons, SkyLanes.BUSY)) {
            Draft.file(x, "U1 D1", 0, 150, 1);
        }
        int last = has(reasons, SkyLanes.BUSY) ? 2 : 3;
        for (int m = 1; m <= last; m++) {
            Draft.file(x, "U1 D1", m, 10, 1);
        }
        x.close(90, 99, 3, 0, 1000);
        if (has(reasons, SkyLanes.ROOM)) {
            x.close(0, 0, 1, 11, 11);
        }
        String waits = has(reasons, SkyLanes.BATTERY) ? ".9" : ".5";
        return Draft.file(x, "U1 " + waits + (has(reasons, SkyLanes.WAY) ? "" : " D1"), 0, 10, 1);
    }

    /** "It is refused for the first of these reasons, each with a cause": of each choice of them. */
    private static void theFirstReason() {
        for (int reasons = 2; reasons < 128; reasons += 2) {
            SkyLanes x = new SkyLanes();
            int got = refusedFor(x, reasons);
            int first = Integer.numberOfTrailingZeros(reasons);
            int busy = has(reasons, SkyLanes.MEETS) ? 1 : 0;
            int moves = has(reasons, SkyLanes.BATTERY) ? 10 : 6;
            int[] causes = {0, busy, SkyLanes.NONE, moves, 10, 1, 0};
            is("the reasons " + Integer.toBinaryString(reasons), x, got, first, causes[first]);
            due.is("refusals", x.count(1), 1);
            due.is("withdrawn", x.count(2), 0);
        }
        SkyLanes x = new SkyLanes();
        due.is("no reason", refusedFor(x, 0), 3);
    }

    /** "those that wait and that it meets are WITHDRAWN": all of them, and no others. */
    private static void thoseThatWaitAreWithdrawn() {
        SkyLanes x = Draft.city(0);
        for (int firm = 1; firm <= 3; firm++) {
            x.machine(firm, 0, 100);
            x.machine(firm, 0, 100);
        }
        int[] begins = {8, 10, 15, 17, 12};
        for (int i = 0; i < begins.length; i++) {
            due.is("path " + i, Draft.file(x, "U1 D1", i, begins[i], 3), i);
        }
        due.is("from 11 to 15 at 100", Draft.file(x, "U1 .4 D1", 5, 10, 2), 5);
        int[] states = {SkyLanes.WAITS, SkyLanes.WITHDRAWN, SkyLanes.WITHDRAWN, SkyLanes.WAITS, SkyLanes.WITHDRAWN, SkyLanes.WAITS};
        for (int i = 0; i < states.length; i++) {
            due.is("path " + i, x.ofPath(i, 0), states[i]);
            due.is("the path of its machine", x.ofMachine(i, 5), states[i] == SkyLanes.WAITS ? i : SkyLanes.NONE);
        }
        due.is("withdrawn", x.count(2), 3);
        due.is("refusals", x.count(1), 0);
        due.is("one may file anew", Draft.file(x, "U1 D1", 1, 40, 3), 6);
    }

    /** "those that wait": a BROKEN one that it meets stays so, and one WITHDRAWN leaves its machine's newer path alone. */
    private static void thoseThatAreOverStay() {
        SkyLanes x = Draft.city(0, 9);
        x.machine(1, 0, 100);
        x.machine(2, 0, 100);
        Draft.file(x, "U1 .10 .5 D1", 0, 1, 0);
        x.tick(2);
        x.lose(0);
        x.tick(1);
        Draft.file(x, "U1 .2 D1", 1, 8, 0);
        x.withdraw(1);
        due.is("the newer path", Draft.file(x, "U1 .2 D1", 1, 50, 0), 2);
        due.is("through both", Draft.file(x, "U1 .4 D1", 2, 7, 0), 3);
        due.is("it meets the one that is broken", x.meets(0, 3), true);
        due.is("it meets the one that is withdrawn", x.meets(1, 3), true);
        due.is("the one that is broken", x.ofPath(0, 0), SkyLanes.BROKEN);
        due.is("the newer path waits", x.ofPath(2, 0), SkyLanes.WAITS);
        due.is("its machine has it", x.ofMachine(1, 5), 2);
        due.is("withdrawn", x.count(2), 1);
    }

    /** "and the draft is empty" as it is accepted; as it is refused it stays. */
    private static void theDraftIsEmpty() {
        SkyLanes x = Draft.city(0);
        due.is("accepted", Draft.file(x, "U1 .2 D1", 0, 9, 0), 0);
        due.is("the draft", x.clear(), 0);
        x.withdraw(0);
        due.is("the next one needs moves", x.file(0, 9, 0), -SkyLanes.WAY);
        due.is("their number begins anew", x.move(5, 1), 1);
        x.move(6, 1);
        due.is("a shorter one", x.file(0, 9, 0), 1);
        due.is("its end", x.ofPath(1, 3), 11);
        due.is("behind it", x.placeAt(1, 12), SkyLanes.NONE);
        due.is("the end of the first", x.ofPath(0, 3), 13);
        due.is("its places stay", x.placeAt(0, 12), 100);
    }
}
