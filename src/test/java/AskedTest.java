/** Promises 18 to 26: what is asked, and that questions change nothing. */
public final class AskedTest {
    private static final Due due = new Due();

    public static void main(String[] args) {
        time();
        alertsByRooms();
        alertsOfEach();
        alertsByLost();
        alertsOneApart();
        alertsBehindTheLost();
        alertsAsFarAsTheyGo();
        alertsWhateverTheBattery();
        home();
        placeAt();
        meets();
        meetsNear();
        ofMachine();
        ofPath();
        count();
        questionsChangeNothing();
        due.end();
    }

    private static void time() {
        SkyLanes x = new SkyLanes();
        due.is("at first", x.time(), 0);
        x.tick(50);
        x.tick(1);
        due.is("then", x.time(), 51);
        due.badArgument("tick(0)", x, () -> x.tick(0));
        due.is("still", x.time(), 51);
    }

    private static void alertsByRooms() {
        SkyLanes x = Draft.city(0, 9);
        Draft.file(x, "U1 .10 .5 E9 D1", 0, 1, 0);
        x.tick(1);
        x.close(0, 0, 1, 12, 12);
        due.is("11 times later", x.alerts(), 0);
        x.tick(1);
        due.is("10 times later", x.alerts(), 1);
        x.tick(9);
        due.is("the next time", x.alerts(), 1);
        x.tick(1);
        due.is("now", x.alerts(), 0);
        x.close(0, 0, 3, 0, 12);
        due.is("until now", x.alerts(), 0);
        x.close(9, 9, 3, 27, 28);
        x.close(1, 1, 1, 17, 17);
        x.close(1, 1, 1, 19, 30);
        due.is("not at that time", x.alerts(), 0);
        x.close(4, 4, 1, 21, 21);
        due.is("on the way", x.alerts(), 1);
        x.open(5);
        due.is("opened", x.alerts(), 0);
        SkyLanes y = Draft.city(0, 9);
        Draft.file(y, ".5 U1 D1 .3", 0, 5, 0);
        y.close(0, 0, 3, 0, 10);
        y.close(0, 0, 3, 12, 1000);
        y.tick(4);
        due.is("its path waits", y.ofPath(0, 0), SkyLanes.WAITS);
        y.close(1, 99, 3, 0, 1000);
        y.tick(1);
        due.is("on the ground one is in no room", y.alerts(), 0);
        y.open(0);
        y.close(0, 0, 3, 11, 11);
        due.is("above it one is", y.alerts(), 1);
    }

    private static void alertsOfEach() {
        SkyLanes x = Draft.city(0, 20, 40, 60);
        x.machine(1, 20, 100);
        x.machine(2, 40, 100);
        x.machine(3, 60, 100);
        for (int m = 0; m < 4; m++) {
            Draft.file(x, "U1 .9 D1", m, m == 2 ? 9 : 1, 0);
        }
        due.is("none flies", x.alerts(), 0);
        x.tick(2);
        x.close(20, 60, 1, 5, 5);
        due.is("the second and the fourth", x.alerts(), 2 + 8);
        due.is("the one that waits goes on waiting", x.ofPath(2, 0), SkyLanes.WAITS);
        x.lose(3);
        due.is("one that is lost is not alerted", x.alerts(), 2);
    }

    /** The machine 0 is lost at 102 at 4: at 202 at 5, 302, 402, 401, 400 at 9, 300, 200, 100 at 12, at 0 at 13. */
    private static SkyLanes comesDown() {
        SkyLanes x = Draft.city(0, 9);
        x.machine(1, 0, 100);
        Draft.file(x, "U1 E2 W2 D1", 0, 1, 0);
        x.tick(4);
        return x;
    }

    private static void alertsByLost() {
        SkyLanes x = comesDown();
        Draft.file(x, "U1 .5 D1", 1, 8, 0);
        x.lose(0);
        due.is("it waits", x.alerts(), 0);
        x.tick(4);
        due.is("it flies", x.alerts(), 2);
        SkyLanes y = comesDown();
        Draft.file(y, ".9 U1 .5 D1", 1, 5, 0);
        y.lose(0);
        y.tick(1);
        due.is("the lost one is on the ground then", y.alerts(), 0);
        SkyLanes z = comesDown();
        Draft.file(z, "E1", 1, 5, 0);
        Draft.file(z, "U2 E9 D2", 1, 5, 0);
        z.tick(4);
        due.is("not lost, no alert", z.alerts(), 0);
    }

    private static void alertsOneApart() {
        for (int begin = 5; begin <= 13; begin++) {
            SkyLanes x = comesDown();
            x.lose(0);
            Draft.file(x, "U1 D1", 1, begin, 0);
            x.tick(begin - 4);
            boolean near = begin + 1 >= 11 && begin + 1 <= 13;
            due.is("at 100 at " + (begin + 1), x.alerts(), near ? 2 : 0);
        }
        for (int waits = 1; waits <= 9; waits++) {
            SkyLanes x = comesDown();
            x.lose(0);
            Draft.file(x, "U2 D1 ." + waits + " D1", 1, 5, 0);
            x.tick(1);
            due.is("at 100 until " + (8 + waits), x.alerts(), 8 + waits >= 11 ? 2 : 0);
        }
    }

    private static void alertsBehindTheLost() {
        for (int waits = 3; waits <= 8; waits++) {
            SkyLanes x = comesDown();
            x.lose(0);
            Draft.file(x, "." + waits + " U1 D1", 1, 6, 0);
            x.tick(2);
            int there = 6 + waits + 1;
            due.is("at 100 at " + there + " alone", x.alerts(), there >= 11 && there <= 13 ? 2 : 0);
        }
    }

    /** The machine 0 is lost at 150 at 7, and will be at 100 at 18; the machine 1 is at 100 at that time alone. */
    private static SkyLanes crosses(int time) {
        SkyLanes x = Draft.city(0);
        x.machine(1, 0, 100);
        Draft.file(x, "U1 S5 N5 D1", 0, 1, 0);
        Draft.file(x, ".10 U1 D1", 1, time - 11, 0);
        x.tick(7);
        due.is("lost", x.lose(0), 0);
        return x;
    }

    private static void alertsAsFarAsTheyGo() {
        SkyLanes x = crosses(16);
        due.is("2 times ahead of the lost one", x.alerts(), 0);
        x.tick(1);
        due.is("2 times ahead of it, a time later", x.alerts(), 0);
        SkyLanes y = crosses(17);
        due.is("10 times later, the lost one 11", y.alerts(), 2);
        SkyLanes z = crosses(18);
        due.is("both 11 times later", z.alerts(), 0);
        z.tick(1);
        due.is("both 10 times later", z.alerts(), 2);
        z.tick(9);
        due.is("both at the next time", z.alerts(), 2);
        z.tick(1);
        due.is("both were there, and are down", z.count(4), 2);
        due.is("none flies", z.alerts(), 0);
        SkyLanes w = crosses(17);
        w.tick(10);
        due.is("it is there now, the lost one is to come", w.alerts(), 0);
    }

    private static void alertsWhateverTheBattery() {
        SkyLanes x = new SkyLanes();
        x.spot(0);
        x.machine(0, 0, 20);
        x.machine(1, 0, 100);
        Draft.file(x, "U1 E2 W2 D1", 0, 1, 0);
        Draft.file(x, ".3 U1 .8 D1", 1, 4, 0);
        x.tick(4);
        x.gust(3, 5);
        x.lose(0);
        due.is("it will be down, but alerts", x.alerts(), 2);
        x.tick(3);
        due.is("nothing is left", x.ofMachine(0, 3), 0);
        due.is("it is lost", x.ofMachine(0, 0), SkyLanes.LOST);
        due.is("it alerts still", x.alerts(), 2);
        x.tick(1);
        due.is("it is down", x.ofMachine(0, 0), SkyLanes.DOWN);
        due.is("it alerts no more", x.alerts(), 0);
    }

    private static void home() {
        SkyLanes x = new SkyLanes();
        due.is("without spots", x.home(0), SkyLanes.NONE);
        due.outside("home(-1)", x, () -> x.home(-1));
        due.outside("home(100)", x, () -> x.home(100));
        x.spot(99);
        due.is("from 0", x.home(0), 18);
        due.is("from 9", x.home(9), 9);
        due.is("from 90", x.home(90), 9);
        due.is("at the spot", x.home(99), 0);
        x.spot(33);
        due.is("from 0, to 33", x.home(0), 6);
        due.is("from 30", x.home(30), 3);
        due.is("from 66, to both", x.home(66), 6);
        due.is("from 67", x.home(67), 5);
        due.is("from 19", x.home(19), 8);
    }

    private static void placeAt() {
        SkyLanes x = Draft.city(0, 9);
        Draft.file(x, "U3 E9 D3", 0, 4, 0);
        due.outside("placeAt(-1, 4)", x, () -> x.placeAt(-1, 4));
        due.outside("placeAt(1, 4)", x, () -> x.placeAt(1, 4));
        due.outside("placeAt(40, 4)", x, () -> x.placeAt(40, 4));
        due.is("ahead of it", x.placeAt(0, 3), SkyLanes.NONE);
        due.is("at its beginning", x.placeAt(0, 4), 0);
        due.is("in the air", x.placeAt(0, 8), 301);
        due.is("at its end", x.placeAt(0, 19), 9);
        due.is("behind it", x.placeAt(0, 20), SkyLanes.NONE);
        due.is("at 0", x.placeAt(0, 0), SkyLanes.NONE);
        due.is("below 0", x.placeAt(0, -1), SkyLanes.NONE);
        due.is("long ago", x.placeAt(0, Integer.MIN_VALUE), SkyLanes.NONE);
        due.is("long behind it", x.placeAt(0, Integer.MAX_VALUE), SkyLanes.NONE);
        x.tick(8);
        due.is("as it flies", x.placeAt(0, 5), 100);
        x.lose(0);
        due.is("as it is broken", x.placeAt(0, 19), 9);
        SkyLanes y = Draft.city(0, 9);
        Draft.file(y, "U3 E9 D3", 0, 4, 0);
        y.withdraw(0);
        due.is("as it is withdrawn", y.placeAt(0, 8), 301);
    }

    private static void isMeeting(SkyLanes x, int path, int other, boolean want) {
        due.is("meets(" + path + ", " + other + ")", x.meets(path, other), want);
        due.is("meets(" + other + ", " + path + ")", x.meets(other, path), want);
        due.is("meetsAnew(" + path + ", " + other + ")", x.meetsAnew(path, other), want);
        due.is("meetsAnew(" + other + ", " + path + ")", x.meetsAnew(other, path), want);
    }

    private static void meets() {
        SkyLanes x = Draft.city(0, 9);
        x.machine(1, 9, 100);
        Draft.file(x, "U1 E9 D1", 0, 1, 1);
        Draft.file(x, "U1 W9 D1", 1, 1, 0);
        isMeeting(x, 0, 1, true);
        isMeeting(x, 0, 0, false);
        isMeeting(x, 1, 1, false);
        for (int[] p : new int[][] {{0, 2}, {2, 0}, {-1, 0}, {0, -1}, {2, 2}, {-1, -1}, {40, 40}}) {
            due.outside("meets(" + p[0] + ", " + p[1] + ")", x, () -> x.meets(p[0], p[1]));
            due.outside("meetsAnew(" + p[0] + ", " + p[1] + ")", x, () -> x.meetsAnew(p[0], p[1]));
        }
        Draft.file(x, "U3 E9 D3", 0, 1, 0);
        due.is("above the other", x.count(0), 3);
        isMeeting(x, 1, 2, false);
        isMeeting(x, 0, 2, true);
        x.tick(20);
        due.is("they ended", x.ofPath(1, 0), SkyLanes.ENDED);
        isMeeting(x, 0, 1, true);
        isMeeting(x, 1, 2, false);
    }

    private static void meetsNear() {
        SkyLanes x = Draft.city(0);
        x.machine(1, 0, 100);
        Draft.file(x, "U1 .2 D1", 0, 20, 0);
        x.withdraw(0);
        for (int begin = 14; begin <= 26; begin++) {
            int path = Draft.file(x, "U1 .1 D1", 1, begin, 0);
            x.withdraw(path);
            int first = begin + 1;
            int last = begin + 2;
            isMeeting(x, 0, path, first <= 24 && last >= 20);
        }
        int ground = Draft.file(x, ".10 .10", 1, 15, 0);
        isMeeting(x, 0, ground, false);
        SkyLanes y = Draft.city(0);
        y.machine(1, 0, 100);
        Draft.file(y, "U1 D1", 0, 10, 0);
        y.withdraw(0);
        Draft.file(y, "U1 D1", 1, 5, 0);
        isMeeting(y, 0, 1, false);
        y.tick(6);
        y.hold(1, 3);
        isMeeting(y, 0, 1, false);
        y.hold(1, 1);
        isMeeting(y, 0, 1, true);
    }

    private static void ofMachine() {
        SkyLanes x = Draft.city(9, 0);
        x.machine(2, 0, 55);
        due.outside("ofMachine(2, 0)", x, () -> x.ofMachine(2, 0));
        due.outside("ofMachine(-1, 9)", x, () -> x.ofMachine(-1, 9));
        due.badArgument("ofMachine(0, -1)", x, () -> x.ofMachine(0, -1));
        due.badArgument("ofMachine(0, 6)", x, () -> x.ofMachine(0, 6));
        Draft.file(x, "U2 S3 N3 D2", 0, 1, 0);
        x.withdraw(0);
        Draft.file(x, "U2 S3 N3 D2", 0, 1, 0);
        due.is("its path waits", x.ofMachine(0, 5), 1);
        x.tick(6);
        int[] flies = {SkyLanes.FLIES, 39, 2, 100 - 4 - 3, 0, 1};
        int[] parked = {SkyLanes.PARKED, 0, 0, 55, 2, SkyLanes.NONE};
        for (int what = 0; what <= 5; what++) {
            due.is("one that flies: " + what, x.ofMachine(0, what), flies[what]);
            due.is("one that is parked: " + what, x.ofMachine(1, what), parked[what]);
        }
        x.lose(0);
        int[] lost = {SkyLanes.LOST, 39, 2, 93, 0, SkyLanes.NONE};
        for (int what = 0; what <= 5; what++) {
            due.is("one that is lost: " + what, x.ofMachine(0, what), lost[what]);
        }
    }

    private static void ofPath() {
        SkyLanes x = Draft.city(0, 9);
        x.machine(2, 9, 55);
        due.outside("ofPath(0, 0)", x, () -> x.ofPath(0, 0));
        Draft.file(x, "U1 D1", 1, 30, 3);
        due.outside("ofPath(1, 9)", x, () -> x.ofPath(1, 9));
        due.outside("ofPath(-1, 0)", x, () -> x.ofPath(-1, 0));
        due.badArgument("ofPath(0, -1)", x, () -> x.ofPath(0, -1));
        due.badArgument("ofPath(0, 5)", x, () -> x.ofPath(0, 5));
        int[] waits = {SkyLanes.WAITS, 1, 30, 32, 3};
        for (int what = 0; what <= 4; what++) {
            due.is("one that waits: " + what, x.ofPath(0, what), waits[what]);
        }
        x.tick(31);
        x.hold(1, 4);
        int[] flies = {SkyLanes.FLIES, 1, 30, 36, 3};
        for (int what = 0; what <= 4; what++) {
            due.is("one that flies: " + what, x.ofPath(0, what), flies[what]);
        }
        x.tick(5);
        due.is("one that ended", x.ofPath(0, 0), SkyLanes.ENDED);
        due.is("when it ended", x.ofPath(0, 3), 36);
    }

    private static void count() {
        SkyLanes x = Draft.city(0, 9);
        due.badArgument("count(-1)", x, () -> x.count(-1));
        due.badArgument("count(5)", x, () -> x.count(5));
        x.machine(1, 0, 100);
        Draft.file(x, "U1", 0, 1, 0);
        Draft.file(x, "U4", 0, 1, 0);
        Draft.file(x, "U1 E9 D1", 0, 5, 3);
        Draft.file(x, "U1 E9 D1", 1, 5, 2);
        Draft.file(x, "U1 E9 D1", 0, 5, 2);
        x.withdraw(1);
        due.badArgument("an exception is no refusal", x, () -> x.file(0, 0, 2));
        due.is("accepted", x.count(0), 2);
        due.is("refusals", x.count(1), 3);
        due.is("withdrawn", x.count(2), 2);
        due.is("down", x.count(3), 0);
        due.is("down together", x.count(4), 0);
        x.gust(1, 5);
        x.gust(2, 5);
        x.gust(3, 5);
        Draft.file(x, "U1 .10 .10 D1", 0, 1, 0);
        x.tick(40);
        due.is("accepted then", x.count(0), 3);
        due.is("down then", x.count(3), 1);
        due.is("down together then", x.count(4), 0);
    }

    private static void questionsChangeNothing() {
        SkyLanes x = comesDown();
        Draft.file(x, "U1 .5 D1", 1, 8, 0);
        x.lose(0);
        x.tick(5);
        x.move(5, 1);
        x.move(0, 4);
        x.move(6, 1);
        String first = Snapshot.of(x);
        for (int i = 0; i < 3; i++) {
            due.same("asked again", Snapshot.of(x), first);
        }
        due.is("the draft stays", x.clear(), 6);
        due.is("time stays", x.time(), 9);
        due.is("hold as if nothing had been asked", x.hold(1, 2), 17);
    }
}
