/** The boundary cases of alerts and of the promises 18 to 26; each test quotes its sentence. */
public final class AskedEdgesTest {
    private static final Due due = new Due();

    public static void main(String[] args) {
        timeOfSteps();
        alertsOfMachinesThatFly();
        alertsInTheNext10Times();
        alertsInRoomsAlone();
        alertsNearOneThatIsLost();
        alertsFromNowTo11TimesLater();
        alertsAboveTheGround();
        alertsWhateverTheBattery();
        alertsAsABitForEach();
        meetsItself();
        meetsNoPath();
        meetsWhateverTheyDo();
        meetsByTheHeldPath();
        whatOfAMachine();
        pathOfAMachine();
        whatOfAPath();
        statesOfPaths();
        endOfAPathByNow();
        countsInRange();
        countsOfEach();
        due.end();
    }

    /** "Returns the time." */
    private static void timeOfSteps() {
        SkyLanes x = new SkyLanes();
        due.is("at first", x.time(), 0);
        x.tick(1);
        due.is("a step later", x.time(), 1);
        x.tick(50);
        due.is("50 steps later", x.time(), 51);
        due.badArgument("51 steps", x, () -> x.tick(51));
        due.is("no step later", x.time(), 51);
    }

    /** "A machine that FLIES is alerted": not one that is PARKED, LOST or DOWN. */
    private static void alertsOfMachinesThatFly() {
        SkyLanes x = Draft.city(0, 9);
        x.machine(1, 9, 20);
        x.close(1, 8, 3, 0, 1000);
        x.open(0);
        Draft.file(x, "U1 E5 W5 D1", 0, 3, 0);
        Draft.file(x, "U1 .8 D1", 1, 3, 0);
        x.tick(2);
        due.is("they wait", x.alerts(), 0);
        x.tick(1);
        x.close(0, 9, 3, 0, 1000);
        due.is("they fly, on the ground", x.alerts(), 3);
        x.tick(2);
        due.is("they fly", x.alerts(), 3);
        x.lose(0);
        due.is("one is lost", x.alerts(), 2);
        x.gust(1, 5);
        x.tick(3);
        due.is("the other is down", x.ofMachine(1, 0), SkyLanes.DOWN);
        due.is("none flies", x.alerts(), 0);
    }

    /** "if in one of the next 10 times its path is in a closed room": not now, not 11 times later. */
    private static void alertsInTheNext10Times() {
        for (int time = 1; time <= 16; time++) {
            SkyLanes x = Draft.city(0);
            Draft.file(x, "U1 .10 .10 D1", 0, 1, 0);
            x.tick(3);
            x.close(0, 0, 1, time, time);
            due.is("closed at " + time + " as it is 3", x.alerts(), time >= 4 && time <= 13 ? 1 : 0);
        }
        SkyLanes y = Draft.city(0);
        Draft.file(y, "U1 .9 D1", 0, 1, 0);
        y.close(0, 0, 1, 12, 1000);
        y.tick(9);
        due.is("it lands ahead of that", y.alerts(), 0);
        y.close(0, 0, 1, 11, 11);
        due.is("its last time in the air", y.alerts(), 1);
    }

    /** A place beside the room, above it or on the ground is not in it; an opened one is none. */
    private static void alertsInRoomsAlone() {
        SkyLanes x = Draft.city(44, 47);
        Draft.file(x, "U2 E3 D2", 0, 1, 0);
        x.tick(3);
        x.close(34, 37, 3, 0, 1000);
        x.close(54, 57, 3, 0, 1000);
        x.close(48, 49, 3, 0, 1000);
        x.close(45, 46, 1, 0, 1000);
        x.close(47, 47, 3, 8, 1000);
        due.is("in none", x.alerts(), 0);
        x.close(45, 46, 2, 0, 4);
        due.is("in one", x.alerts(), 1);
        x.open(5);
        due.is("opened", x.alerts(), 0);
        x.close(47, 47, 1, 7, 7);
        due.is("its last place in the air", x.alerts(), 1);
    }

    /** The machine 0 is lost at 102 at 4: at 202 at 5, 302, 402, 401, 400 at 9, 300, 200, 100 at 12, at 0 at 13. */
    private static SkyLanes comesDown() {
        SkyLanes x = Draft.city(0, 9);
        x.machine(1, 0, 100);
        Draft.file(x, "U1 E2 W2 D1", 0, 1, 0);
        x.tick(4);
        due.is("lost", x.lose(0), 0);
        return x;
    }

    /** Where the machine 0 is at the times 4 to 13. */
    private static final int[] LOST_AT = {102, 202, 302, 402, 401, 400, 300, 200, 100, 0};

    /** Whether a path that is at this place at this time is at most 1 apart from the one that is lost. */
    private static boolean isNear(int place, int time, int now) {
        for (int then = Math.max(now, time - 1); then <= time + 1; then++) {
            int at = then - 4 < LOST_AT.length ? LOST_AT[then - 4] : 0;
            if (place >= 100 && place == at) {
                return true;
            }
        }
        return false;
    }

    /** "or at the cell and the layer at which a machine that is LOST will be at that time, or 1 apart" */
    private static void alertsNearOneThatIsLost() {
        String[] ways = {"U1 D1", ".4 U1 D1", ".6 U1 D1", "U3 D3", ".2 U3 D3", "U2 E2 W2 D2", "U3 E2 W2 D3", "U3 E1 .1 W1 D3"};
        for (String moves : ways) {
            for (int begin = 5; begin <= 13; begin++) {
                SkyLanes x = comesDown();
                due.is("accepted", Draft.file(x, moves, 1, begin, 0), 1);
                x.tick(begin - 4);
                boolean near = false;
                for (int time = begin + 1; time <= begin + 10; time++) {
                    near |= isNear(x.placeAt(1, time), time, begin);
                }
                due.is(moves + " from " + begin, x.alerts(), near ? 2 : 0);
            }
        }
    }

    /** "(so from now to 11 times later)" */
    private static void alertsFromNowTo11TimesLater() {
        SkyLanes x = comesDown();
        Draft.file(x, ".3 U1 D1", 1, 9, 0);
        x.tick(8);
        due.is("it is at 100 now", 100 * x.ofMachine(0, 2) + x.ofMachine(0, 1), 100);
        due.is("the other is there at the next time", x.placeAt(1, 13), 100);
        due.is("alerted", x.alerts(), 2);
        x.tick(1);
        due.is("it was there ahead of now", x.alerts(), 0);
        for (int later = 9; later <= 12; later++) {
            SkyLanes y = Draft.city(0);
            y.machine(1, 0, 100);
            Draft.file(y, "U1 S5 N5 D1", 0, 1, 0);
            due.is("lost at 150 at 7, to be at 100 at 18", Draft.file(y, ".9 U1 D1", 1, 7 + later - 10, 0), 1);
            y.tick(7);
            y.lose(0);
            due.is("at 100 " + later + " times later, it 11", y.alerts(), later == 10 ? 2 : 0);
            y.tick(1);
            due.is("a time later", y.alerts(), later >= 10 && later <= 11 ? 2 : 0);
        }
    }

    /** "both above the ground" */
    private static void alertsAboveTheGround() {
        SkyLanes x = comesDown();
        Draft.file(x, ".10 .5", 1, 6, 0);
        x.tick(7);
        due.is("on the ground where it lands", x.alerts(), 0);
        x.tick(1);
        due.is("as it is just above", x.alerts(), 0);
        SkyLanes y = comesDown();
        Draft.file(y, ".4 U1 .3 D1", 1, 9, 0);
        y.tick(8);
        due.is("it is on the ground as the other is at 100", y.alerts(), 0);
    }

    /** "what is in its battery does not matter for that" */
    private static void alertsWhateverTheBattery() {
        SkyLanes x = new SkyLanes();
        x.spot(0);
        x.machine(0, 0, 20);
        x.machine(1, 0, 100);
        Draft.file(x, "U1 E2 W2 D1", 0, 1, 0);
        x.tick(4);
        x.lose(0);
        x.gust(2, 5);
        x.gust(3, 5);
        Draft.file(x, "U3 .2 D3", 1, 5, 0);
        x.tick(1);
        due.is("9 left, which is too little", x.ofMachine(0, 3), 9);
        due.is("alerted as if it came home", x.alerts(), 2);
        x.tick(2);
        due.is("it is down", x.ofMachine(0, 0), SkyLanes.DOWN);
        due.is("no alert by one that is down", x.alerts(), 0);
    }

    /** "which machines are alerted: a bit for each" */
    private static void alertsAsABitForEach() {
        SkyLanes x = new SkyLanes();
        for (int i = 0; i < 8; i++) {
            x.spot(10 * i);
        }
        for (int m = 0; m < 10; m++) {
            x.machine(m % 4, 10 * (m % 8), 100);
        }
        for (int m = 0; m < 8; m++) {
            due.is("path " + m, Draft.file(x, "U1 E4 W4 D1", m, 1, 0), m);
        }
        due.is("the path of 9", Draft.file(x, ".3 U2 .8 D2", 9, 1, 0), 8);
        due.is("the path of 8", Draft.file(x, ".3 U2 .8 D2", 8, 1, 0), 9);
        x.tick(2);
        for (int m = 0; m < 8; m++) {
            x.close(10 * m + 1, 10 * m + 4, 1, 3, 3);
            due.is("the first " + (m + 1), x.alerts(), (1 << m + 1) - 1);
        }
        x.close(10, 10, 2, 7, 7);
        due.is("and the tenth", x.alerts(), 255 + 512);
        x.open(3);
        due.is("but not the fourth", x.alerts(), 255 + 512 - 8);
        x.close(0, 0, 2, 7, 7);
        due.is("and the ninth", x.alerts(), 1023 - 8);
    }

    private static void isMeeting(String name, SkyLanes x, int path, int other, boolean want) {
        due.is(name + ": meets(" + path + ", " + other + ")", x.meets(path, other), want);
        due.is(name + ": meets(" + other + ", " + path + ")", x.meets(other, path), want);
        due.is(name + ": meetsAnew(" + path + ", " + other + ")", x.meetsAnew(path, other), want);
        due.is(name + ": meetsAnew(" + other + ", " + path + ")", x.meetsAnew(other, path), want);
    }

    /** "false for one with itself" */
    private static void meetsItself() {
        SkyLanes x = Draft.city(0);
        Draft.file(x, "U1 .5 D1", 0, 1, 0);
        isMeeting("as it waits", x, 0, 0, false);
        x.tick(3);
        isMeeting("as it flies", x, 0, 0, false);
        x.lose(0);
        isMeeting("as it is broken", x, 0, 0, false);
    }

    /** "IndexOutOfBoundsException if there is no such path, of either" */
    private static void meetsNoPath() {
        SkyLanes none = Draft.city(0);
        due.outside("without paths: meets(0, 0)", none, () -> none.meets(0, 0));
        due.outside("without paths: meetsAnew(0, 0)", none, () -> none.meetsAnew(0, 0));
        for (int no : new int[] {-1, 1, 40, Integer.MIN_VALUE, Integer.MAX_VALUE}) {
            SkyLanes x = Draft.city(0);
            Draft.file(x, "U1 .5 D1", 0, 1, 0);
            due.outside("meets(0, " + no + ")", x, () -> x.meets(0, no));
            due.outside("meets(" + no + ", 0)", x, () -> x.meets(no, 0));
            due.outside("meets of " + no + " with itself", x, () -> x.meets(no, no));
            due.outside("meetsAnew(0, " + no + ")", x, () -> x.meetsAnew(0, no));
            due.outside("meetsAnew(" + no + ", 0)", x, () -> x.meetsAnew(no, 0));
            due.outside("meetsAnew of " + no + " with itself", x, () -> x.meetsAnew(no, no));
        }
    }

    /** "whether two paths meet, whatever they do" */
    private static void meetsWhateverTheyDo() {
        SkyLanes x = Draft.city(0, 9);
        x.machine(1, 0, 100);
        Draft.file(x, "U1 .5 D1", 0, 5, 1);
        Draft.file(x, "U1 .5 D1", 1, 5, 0);
        isMeeting("withdrawn and waiting", x, 0, 1, true);
        x.withdraw(1);
        isMeeting("both withdrawn", x, 0, 1, true);
        due.is("a third", Draft.file(x, "U1 .5 D1", 0, 6, 0), 2);
        x.tick(7);
        isMeeting("one flies", x, 1, 2, true);
        x.lose(0);
        isMeeting("one is broken", x, 1, 2, true);
        x.tick(1);
        due.is("a fourth", Draft.file(x, "U1 D1", 0, 9, 0), 3);
        x.tick(3);
        due.is("it has ended", x.ofPath(3, 0), SkyLanes.ENDED);
        isMeeting("one has ended", x, 1, 3, true);
        isMeeting("broken and ended", x, 2, 3, true);
    }

    /** By its places as it is held. */
    private static void meetsByTheHeldPath() {
        SkyLanes x = Draft.city(0);
        x.machine(1, 0, 100);
        Draft.file(x, "U1 D1", 0, 9, 0);
        x.withdraw(0);
        Draft.file(x, "U1 D1", 1, 1, 0);
        x.tick(2);
        isMeeting("7 and more apart", x, 0, 1, false);
        x.hold(1, 6);
        isMeeting("2 apart", x, 0, 1, false);
        x.hold(1, 1);
        isMeeting("1 apart", x, 0, 1, true);
    }

    /** "what: 0 PARKED to DOWN, 1 its cell, 2 its layer, 3 its battery, 4 its firm, 5 its path" */
    private static void whatOfAMachine() {
        SkyLanes x = Draft.city(37, 38);
        due.is("another", x.machine(3, 38, 77), 1);
        for (int what : new int[] {-1, 6, Integer.MIN_VALUE, Integer.MAX_VALUE}) {
            due.badArgument("what " + what, x, () -> x.ofMachine(0, what));
            due.outside("what " + what + " of no machine", x, () -> x.ofMachine(2, what));
        }
        for (int no : new int[] {-1, 2, 10, Integer.MIN_VALUE, Integer.MAX_VALUE}) {
            due.outside("machine " + no, x, () -> x.ofMachine(no, 0));
        }
        int[] told = {SkyLanes.PARKED, 38, 0, 77, 3, SkyLanes.NONE};
        for (int what = 0; what <= 5; what++) {
            due.is("what " + what, x.ofMachine(1, what), told[what]);
        }
    }

    /** "its path that WAITS or FLIES, NONE without one" */
    private static void pathOfAMachine() {
        SkyLanes x = Draft.city(0);
        due.is("none yet", x.ofMachine(0, 5), SkyLanes.NONE);
        Draft.file(x, "U1", 0, 5, 0);
        due.is("one that was refused", x.ofMachine(0, 5), SkyLanes.NONE);
        Draft.file(x, "U1 D1", 0, 5, 0);
        due.is("it waits", x.ofMachine(0, 5), 0);
        x.withdraw(0);
        due.is("it is withdrawn", x.ofMachine(0, 5), SkyLanes.NONE);
        Draft.file(x, "U1 .3 D1", 0, 5, 0);
        due.is("another waits", x.ofMachine(0, 5), 1);
        x.tick(5);
        due.is("it flies", x.ofMachine(0, 5), 1);
        x.tick(4);
        due.is("it flies at its last place in the air", x.ofMachine(0, 5), 1);
        x.tick(1);
        due.is("it has ended", x.ofMachine(0, 5), SkyLanes.NONE);
        Draft.file(x, "U1 .3 D1", 0, 11, 0);
        x.tick(2);
        x.lose(0);
        due.is("it is broken", x.ofMachine(0, 5), SkyLanes.NONE);
    }

    /** "what: 0 WAITS to BROKEN, 1 its machine, 2 when it begins, 3 when it ends, as it is by now, 4 how urgent it is" */
    private static void whatOfAPath() {
        SkyLanes x = Draft.city(0, 9);
        x.machine(1, 9, 100);
        Draft.file(x, "U1 .3 D1", 1, 7, 2);
        for (int what : new int[] {-1, 5, Integer.MIN_VALUE, Integer.MAX_VALUE}) {
            due.badArgument("what " + what, x, () -> x.ofPath(0, what));
            due.outside("what " + what + " of no path", x, () -> x.ofPath(1, what));
        }
        for (int no : new int[] {-1, 1, 40, Integer.MIN_VALUE, Integer.MAX_VALUE}) {
            due.outside("path " + no, x, () -> x.ofPath(no, 0));
        }
        int[] told = {SkyLanes.WAITS, 1, 7, 12, 2};
        for (int what = 0; what <= 4; what++) {
            due.is("what " + what, x.ofPath(0, what), told[what]);
        }
    }

    /** "A path WAITS 0, FLIES 1 ..., has ENDED 2 ..., is WITHDRAWN 3, or BROKEN 4, when its machine is LOST or DOWN." */
    private static void statesOfPaths() {
        SkyLanes x = Draft.city(0, 9, 90);
        x.machine(1, 9, 20);
        x.machine(2, 90, 100);
        Draft.file(x, "U1 .3 D1", 0, 2, 0);
        Draft.file(x, "U1 .8 D1", 1, 2, 0);
        Draft.file(x, "U1 .3 D1", 2, 2, 0);
        due.is("it waits", x.ofPath(0, 0), SkyLanes.WAITS);
        x.tick(2);
        due.is("it flies", x.ofPath(0, 0), SkyLanes.FLIES);
        x.tick(1);
        x.gust(1, 5);
        x.lose(2);
        due.is("its machine is lost", x.ofPath(2, 0), SkyLanes.BROKEN);
        x.tick(3);
        due.is("its machine flies with 0 left", x.ofPath(1, 0), SkyLanes.FLIES);
        due.is("it flies yet", x.ofPath(0, 0), SkyLanes.FLIES);
        x.tick(1);
        due.is("its machine is down", x.ofPath(1, 0), SkyLanes.BROKEN);
        due.is("it has ended", x.ofPath(0, 0), SkyLanes.ENDED);
        due.is("a fourth", Draft.file(x, "U1 D1", 0, 9, 0), 3);
        x.withdraw(3);
        x.tick(5);
        int[] states = {SkyLanes.ENDED, SkyLanes.BROKEN, SkyLanes.BROKEN, SkyLanes.WITHDRAWN};
        for (int p = 0; p < 4; p++) {
            due.is("the state stays of " + p, x.ofPath(p, 0), states[p]);
        }
    }

    /** "3 when it ends, as it is by now": later as it is held, and as filed when its machine is LOST. */
    private static void endOfAPathByNow() {
        SkyLanes x = Draft.city(0, 9);
        Draft.file(x, "U1 E9 D1", 0, 3, 0);
        due.is("filed", x.ofPath(0, 3), 14);
        x.tick(6);
        x.hold(0, 4);
        due.is("held", x.ofPath(0, 3), 18);
        due.is("it began", x.ofPath(0, 2), 3);
        x.hold(0, 1);
        due.is("held again", x.ofPath(0, 3), 19);
        x.lose(0);
        due.is("lost", x.ofPath(0, 3), 19);
        due.is("its place at the end", x.placeAt(0, 19), 9);
        due.is("behind it", x.placeAt(0, 20), SkyLanes.NONE);
    }

    /** "IllegalArgumentException if what is out of range" */
    private static void countsInRange() {
        SkyLanes x = new SkyLanes();
        for (int what : new int[] {-1, 5, Integer.MIN_VALUE, Integer.MAX_VALUE}) {
            due.badArgument("count " + what, x, () -> x.count(what));
        }
        for (int what = 0; what <= 4; what++) {
            due.is("count " + what, x.count(what), 0);
        }
    }

    private static void counts(SkyLanes x, int accepted, int refused, int withdrawn, int down, int together) {
        int[] want = {accepted, refused, withdrawn, down, together};
        for (int what = 0; what <= 4; what++) {
            due.is("count " + what + " at " + x.time(), x.count(what), want[what]);
        }
    }

    /** "0 paths that were accepted, 1 refusals, 2 ... WITHDRAWN, 3 ... DOWN, 4 machines that went DOWN as others were at their place" */
    private static void countsOfEach() {
        SkyLanes x = comesDown();
        counts(x, 1, 0, 0, 0, 0);
        Draft.file(x, "U1", 1, 5, 0);
        counts(x, 1, 1, 0, 0, 0);
        Draft.file(x, "U3 .3 D3", 1, 6, 0);
        counts(x, 2, 1, 0, 0, 0);
        due.is("busy", x.file(1, 6, 0), -SkyLanes.BUSY);
        counts(x, 2, 2, 0, 0, 0);
        x.withdraw(1);
        counts(x, 2, 2, 1, 0, 0);
        Draft.file(x, "U3 .3 D3", 1, 6, 0);
        x.close(90, 99, 3, 0, 100);
        counts(x, 3, 2, 1, 0, 0);
        x.tick(5);
        counts(x, 3, 2, 1, 0, 0);
        x.tick(1);
        counts(x, 3, 2, 1, 2, 2);
        x.machine(2, 9, 20);
        x.gust(1, 5);
        Draft.file(x, "U1 .8 D1", 2, 11, 0);
        Draft.put(x, "U1 D1");
        due.badArgument("no refusal", x, () -> x.file(2, 10, 0));
        x.tick(6);
        counts(x, 4, 2, 1, 3, 2);
    }
}
