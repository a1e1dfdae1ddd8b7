/** The boundary cases of "Machines" and "Paths" and of the promises 8 to 11 and 14; each test quotes its sentence. */
public final class PathEdgesTest {
    private static final Due due = new Due();

    public static void main(String[] args) {
        tenMachines();
        firms();
        fullBatteries();
        parkedAtASpot();
        whatMovesTake();
        windWhereItComes();
        windOnTheGround();
        fortyMoves();
        movesAndTimes();
        emptiedDraft();
        takesOfMachines();
        takesOfWays();
        placesOfAPath();
        aPathOfFortyMoves();
        meetInTime();
        meetInPlace();
        whyWithoutARefusal();
        withdrawWhatWaits();
        due.end();
    }

    /** "Machines are numbered from 0, at most 10" */
    private static void tenMachines() {
        SkyLanes x = new SkyLanes();
        x.spot(0);
        for (int i = 0; i < 10; i++) {
            int none = i;
            due.outside("no machine " + i + " yet", x, () -> x.ofMachine(none, 0));
            due.is("machine " + i, x.machine(i % 4, 0, 20 + i), i);
        }
        due.badState("the eleventh", x, () -> x.machine(0, 0, 50));
        due.outside("machine 10", x, () -> x.ofMachine(10, 0));
        due.outside("machine -1", x, () -> x.ofMachine(-1, 0));
        for (int i = 0; i < 10; i++) {
            due.is("firm of " + i, x.ofMachine(i, 4), i % 4);
            due.is("battery of " + i, x.ofMachine(i, 3), 20 + i);
        }
        due.is("the tenth takes", x.takes(9), SkyLanes.NONE);
        due.is("the tenth files", Draft.file(x, "U1 .9 D1", 9, 1, 0), 0);
        due.is("the path of the tenth", x.ofMachine(9, 5), 0);
        x.tick(2);
        due.is("the tenth flies", x.ofMachine(9, 0), SkyLanes.FLIES);
        due.is("the tenth is held", x.hold(9, 1), 13);
        x.close(0, 0, 1, 5, 5);
        due.is("the tenth is alerted", x.alerts(), 512);
        due.is("the tenth is lost", x.lose(9), 0);
        x.tick(1);
        due.is("the tenth is home", x.ofMachine(9, 0), SkyLanes.PARKED);
    }

    /** "a machine is of a firm, 0 to 3" */
    private static void firms() {
        SkyLanes x = new SkyLanes();
        x.spot(0);
        for (int firm : new int[] {-1, 4, Integer.MIN_VALUE, Integer.MAX_VALUE}) {
            due.badArgument("the firm " + firm, x, () -> x.machine(firm, 0, 50));
        }
        for (int firm = 0; firm <= 3; firm++) {
            due.is("of the firm " + firm, x.machine(firm, 0, 50), firm);
            due.is("its firm", x.ofMachine(firm, 4), firm);
        }
    }

    /** "full: 20 to 200", "has a battery that is full with so much, as at first" */
    private static void fullBatteries() {
        SkyLanes x = new SkyLanes();
        x.spot(0);
        for (int full : new int[] {19, 201, 0, -20, Integer.MIN_VALUE, Integer.MAX_VALUE}) {
            due.badArgument("full with " + full, x, () -> x.machine(0, 0, full));
        }
        int number = 0;
        for (int full : new int[] {20, 21, 199, 200}) {
            due.is("full with " + full, x.machine(0, 0, full), number);
            due.is("its battery", x.ofMachine(number, 3), full);
            number++;
        }
        x.tick(3);
        due.is("no more than full", x.ofMachine(0, 3), 20);
        due.is("nor at 200", x.ofMachine(3, 3), 200);
    }

    /** "is PARKED 0 at a spot on the ground", "IllegalStateException if the cell is no spot" */
    private static void parkedAtASpot() {
        SkyLanes x = new SkyLanes();
        due.badState("no spot at all", x, () -> x.machine(0, 0, 50));
        x.spot(55);
        for (int cell : new int[] {54, 56, 45, 65, 0, 99}) {
            due.badState("no spot " + cell, x, () -> x.machine(0, cell, 50));
        }
        due.is("at the spot", x.machine(0, 55, 50), 0);
        due.is("at the same spot", x.machine(0, 55, 50), 1);
        due.is("its state", x.ofMachine(0, 0), SkyLanes.PARKED);
        due.is("its cell", x.ofMachine(0, 1), 55);
        due.is("its layer", x.ofMachine(0, 2), 0);
        due.is("its path", x.ofMachine(0, 5), SkyLanes.NONE);
    }

    private static void takes(String moves, int wind1, int wind2, int wind3, int want) {
        SkyLanes x = Draft.city(44, 45, 43, 54, 34);
        x.wind(1, wind1);
        x.wind(2, wind2);
        x.wind(3, wind3);
        Draft.put(x, moves);
        String name = moves + " in winds " + wind1 + wind2 + wind3;
        due.is("takes of " + name, x.takes(0), want);
        x.gust(1, wind1);
        x.gust(2, wind2);
        x.gust(3, wind3);
        due.is("accepted", x.file(0, 1, 0), 0);
        x.tick(x.ofPath(0, 3));
        due.is("taken by " + name, 100 - x.ofMachine(0, 3), want);
    }

    /** "A move takes 1 of the battery, UP takes 2" */
    private static void whatMovesTake() {
        takes("E1", 0, 0, 0, 1);
        takes("W1", 0, 0, 0, 1);
        takes("S1", 0, 0, 0, 1);
        takes("N1", 0, 0, 0, 1);
        takes("U1 D1", 0, 0, 0, 3);
        takes("U1 .1 D1", 0, 0, 0, 4);
        takes("U3 D3", 0, 0, 0, 9);
        takes("U1 E1 W1 S1 N1 D1", 0, 0, 0, 7);
    }

    /** "and as much as the wind of the layer to which it comes, or where it stays" */
    private static void windWhereItComes() {
        takes("U1 D1", 3, 0, 0, 3 + 3);
        takes("U2 D2", 1, 2, 0, 2 + 1 + 2 + 2 + 1 + 1 + 1);
        takes("U3 D3", 1, 2, 3, 3 + 4 + 5 + 3 + 2 + 1);
        takes("U2 D2", 3, 0, 0, 2 + 3 + 2 + 1 + 3 + 1);
        takes("U1 .4 D1", 2, 0, 0, 4 + 4 * 3 + 1);
        takes("U2 .4 D2", 0, 3, 0, 2 + 5 + 4 * 4 + 1 + 1);
        takes("U3 E1 .2 W1 D3", 0, 0, 1, 2 + 2 + 3 + 4 * 2 + 1 + 1 + 1);
    }

    /** "none on the ground; to WAIT on the ground takes nothing" */
    private static void windOnTheGround() {
        takes("E1", 3, 3, 3, 1);
        takes("E1 W1 S1 N1", 3, 2, 1, 4);
        takes(".1", 3, 3, 3, 0);
        takes(".10 .10 .10 .10", 3, 3, 3, 0);
        takes(".2 U1 D1 .2", 3, 0, 0, 5 + 1);
        takes("U1 D1 .1 U1 D1", 3, 0, 0, 2 * (5 + 1));
    }

    /** "a draft, a row of at most 40 moves", "IllegalStateException if it would have more than 40" */
    private static void fortyMoves() {
        for (int times = 1; times <= 10; times++) {
            SkyLanes x = new SkyLanes();
            int t = times;
            int moves = 0;
            while (moves + t <= 40) {
                moves += t;
                due.is("moves by " + t, x.move(0, t), moves);
            }
            due.badState("beyond 40 by " + t, x, () -> x.move(0, t));
            if (moves < 40) {
                due.is("up to 40", x.move(6, 40 - moves), 40);
            }
            due.badState("one more", x, () -> x.move(0, 1));
            due.is("the moves", x.clear(), 40);
            due.is("a new draft", x.move(0, t), t);
        }
    }

    /** "move: WAIT to DOWN, 0 to 6", "times: 1 to 10" */
    private static void movesAndTimes() {
        SkyLanes x = new SkyLanes();
        x.move(0, 5);
        for (int no : new int[] {-1, 7, Integer.MIN_VALUE, Integer.MAX_VALUE}) {
            due.badArgument("move " + no, x, () -> x.move(no, 1));
        }
        for (int no : new int[] {0, 11, -1, Integer.MIN_VALUE, Integer.MAX_VALUE}) {
            due.badArgument("times " + no, x, () -> x.move(0, no));
        }
        due.is("the draft stays", x.clear(), 5);
        for (int move = 0; move <= 6; move++) {
            due.is("move " + move, x.move(move, 1), move + 1);
        }
        due.is("ten times", x.move(0, 10), 17);
    }

    /** "Empties the draft; returns how many moves it had." */
    private static void emptiedDraft() {
        SkyLanes x = Draft.city(0);
        due.is("empty at first", x.clear(), 0);
        x.move(0, 1);
        due.is("of one", x.clear(), 1);
        due.is("empty", x.clear(), 0);
        due.is("refused", Draft.file(x, "U1", 0, 1, 0), -SkyLanes.WAY);
        due.is("a refusal leaves it", x.clear(), 1);
        due.is("an empty one is refused", x.file(0, 1, 0), -SkyLanes.WAY);
        Draft.put(x, "U1 D1");
        due.badArgument("an exception", x, () -> x.file(0, 0, 0));
        due.is("an exception leaves it", x.file(0, 1, 0), 0);
        due.is("an accepted path does not", x.clear(), 0);
    }

    private static void takesNow(String name, SkyLanes x, String moves, int want) {
        Draft.put(x, moves);
        due.is(name, x.takes(0), want);
    }

    /** "NONE if it is not PARKED": one that waits for its path is; the others are above or at the spot 0. */
    private static void takesOfMachines() {
        SkyLanes x = Draft.city(0, 9);
        due.is("its path", Draft.file(x, ".1 U1 .3 D1", 0, 3, 0), 0);
        takesNow("as its path waits", x, "U1 D1", 3);
        x.tick(4);
        takesNow("as it flies on the ground", x, "U1 D1", SkyLanes.NONE);
        x.tick(1);
        takesNow("as it flies", x, "D1", SkyLanes.NONE);
        x.lose(0);
        takesNow("as it is lost", x, "D1", SkyLanes.NONE);
        x.tick(1);
        takesNow("as it is home", x, "U1 D1", 3);
        x.gust(1, 5);
        due.is("its path", Draft.file(x, "U1 .10 .10 D1", 0, 7, 0), 1);
        x.tick(20);
        due.is("it is down", x.ofMachine(0, 0), SkyLanes.DOWN);
        takesNow("as it is down", x, "D1", SkyLanes.NONE);
        due.outside("of no machine", x, () -> x.takes(1));
        due.outside("of the machine -1", x, () -> x.takes(-1));
    }

    /** "or its way is refused": for its way alone. */
    private static void takesOfWays() {
        SkyLanes x = Draft.city(0, 2);
        x.tower(1, 1);
        String[] refused = {"", "U1", "W1", "U4 D4", "D1 U1", "U1 E2 D1", "E1 W1", "U2 E1 D2", ".3 U1"};
        for (String moves : refused) {
            Draft.put(x, moves);
            due.is("takes of " + moves, x.takes(0), SkyLanes.NONE);
        }
        Draft.put(x, "U2 E2 D2");
        due.is("above the tower", x.takes(0), 8);
        x.close(0, 99, 3, 0, 1000);
        due.is("through a room", x.takes(0), 8);
        Draft.put(x, "U2 .10 .10 .10 .6 D2");
        x.machine(0, 0, 20);
        due.is("more than there is", x.takes(1), 42);
        due.is("no refusal", x.count(1), 0);
    }

    /** "it is at its place k, from 0, k behind that time", "NONE ahead of its beginning and behind its end" */
    private static void placesOfAPath() {
        SkyLanes x = Draft.city(0, 9);
        Draft.file(x, ".1 U2 E1 S1 .1 N1 W1 D2 .1", 0, 7, 0);
        int[] places = {-1, 0, 0, 100, 200, 201, 211, 211, 201, 200, 100, 0, 0, -1};
        for (int i = 0; i < places.length; i++) {
            due.is("at " + (6 + i), x.placeAt(0, 6 + i), places[i]);
        }
        due.is("when it begins", x.ofPath(0, 2), 7);
        due.is("when it ends", x.ofPath(0, 3), 18);
        for (int time : new int[] {Integer.MIN_VALUE, -1, 0, Integer.MAX_VALUE}) {
            due.is("at " + time, x.placeAt(0, time), SkyLanes.NONE);
        }
        due.outside("path -1", x, () -> x.placeAt(-1, 7));
        due.outside("path 1", x, () -> x.placeAt(1, 7));
    }

    private static void aPathOfFortyMoves() {
        SkyLanes x = Draft.city(0);
        due.is("accepted", Draft.file(x, "U1 .10 .10 .10 .8 D1", 0, 1, 0), 0);
        due.is("its end", x.ofPath(0, 3), 41);
        due.is("its place ahead of the last one", x.placeAt(0, 40), 100);
        due.is("its last place", x.placeAt(0, 41), 0);
        due.is("behind it", x.placeAt(0, 42), SkyLanes.NONE);
        x.tick(40);
        due.is("it flies", x.ofMachine(0, 0), SkyLanes.FLIES);
        x.tick(1);
        due.is("it has ended", x.ofPath(0, 0), SkyLanes.ENDED);
        due.is("what is left", x.ofMachine(0, 3), 100 - 2 - 38 - 1);
    }

    /** "at times that are the same, or 1 apart" */
    private static void meetInTime() {
        for (int apart = -5; apart <= 5; apart++) {
            SkyLanes x = Draft.city(0);
            x.machine(1, 0, 100);
            due.is("one", Draft.file(x, "U1 .1 D1", 0, 20, 0), 0);
            x.withdraw(0);
            due.is("the other", Draft.file(x, "U1 D1", 1, 20 + apart, 0), 1);
            boolean near = apart >= -1 && apart <= 2;
            due.is("they meet, " + apart + " apart", x.meets(0, 1), near);
            due.is("they meet the other way, " + apart + " apart", x.meets(1, 0), near);
            due.is("found anew, " + apart + " apart", x.meetsAnew(0, 1), near);
            due.is("found anew the other way, " + apart + " apart", x.meetsAnew(1, 0), near);
        }
    }

    private static void meet(String one, String other, int later, boolean want) {
        SkyLanes x = Draft.city(0, 1, 10);
        x.machine(1, 0, 100);
        due.is("one", Draft.file(x, one, 0, 20, 0), 0);
        x.withdraw(0);
        due.is("the other", Draft.file(x, other, 1, 20 + later, 0), 1);
        String name = one + " and " + other + ", " + later + " later";
        due.is("they meet: " + name, x.meets(0, 1), want);
        due.is("they meet the other way: " + name, x.meets(1, 0), want);
        due.is("found anew: " + name, x.meetsAnew(0, 1), want);
        due.is("found anew the other way: " + name, x.meetsAnew(1, 0), want);
    }

    /** "at one cell in one layer above the ground" */
    private static void meetInPlace() {
        meet(".5", ".5", 0, false);
        meet(".2 U1 D1", ".9", 0, false);
        meet("E1", ".3 E1", 0, false);
        meet("U1 .5 D1", "E1 U1 .3 D1 W1", 0, false);
        meet("U1 .5 D1", "S1 U1 .3 D1 N1", 0, false);
        meet("U3 .5 D3", "U2 D2", 5, false);
        meet("U2 .5 D2", "U1 D1", 4, false);
        meet("U2 .5 D2", "U1 D1", 0, true);
        meet("U1 E1 D1", "E1 U1 W1 D1", 0, true);
        meet("U1 E1 D1", "E1 U1 W1 D1", 2, false);
        meet("U1 E1 D1", "E1 U1 W1 D1", 1, true);
        meet("U1 E1 D1", "U1 E1 D1", 1, true);
        meet("U1 E1 D1", "U1 E1 D1", 2, false);
        meet("U3 D3", "U3 D3", 3, true);
        meet("U3 D3", "U3 D3", 5, true);
        meet("U3 D3", "U3 D3", 6, false);
    }

    /** "Returns the cause of the latest refusal; NONE without one, too." */
    private static void whyWithoutARefusal() {
        SkyLanes x = Draft.city(0, 9);
        due.is("at first", x.why(), SkyLanes.NONE);
        Draft.file(x, "U1 D1", 0, 1, 0);
        due.is("as one is accepted", x.why(), SkyLanes.NONE);
        due.is("busy", x.file(0, 1, 0), -SkyLanes.BUSY);
        due.is("the path", x.why(), 0);
        x.withdraw(0);
        due.is("the path, withdrawn", x.why(), 0);
        due.is("the way", x.file(0, 1, 0), -SkyLanes.WAY);
        due.is("of an empty draft", x.why(), 0);
        due.is("the way", Draft.file(x, "U4", 0, 1, 0), -SkyLanes.WAY);
        due.is("the fourth place", x.why(), 4);
        due.is("accepted", Draft.file(x, "U1 D1", 0, 1, 0), 1);
        due.is("the fourth place still", x.why(), 4);
        due.badArgument("an exception", x, () -> x.file(0, 0, 0));
        due.is("after it", x.why(), 4);
        x.tick(1);
        due.is("busy", x.file(0, 5, 0), -SkyLanes.BUSY);
        due.is("without a cause", x.why(), SkyLanes.NONE);
    }

    /** "IllegalStateException if it does not wait": as it FLIES, has ENDED, is WITHDRAWN or BROKEN. */
    private static void withdrawWhatWaits() {
        SkyLanes x = Draft.city(0, 9);
        due.outside("none yet", x, () -> x.withdraw(0));
        Draft.file(x, "U1 .2 D1", 0, 5, 0);
        due.outside("path 1", x, () -> x.withdraw(1));
        due.outside("path -1", x, () -> x.withdraw(-1));
        due.outside("path 40", x, () -> x.withdraw(40));
        x.withdraw(0);
        due.badState("withdrawn", x, () -> x.withdraw(0));
        due.is("another", Draft.file(x, "U1 .2 D1", 0, 5, 0), 1);
        due.badState("withdrawn still", x, () -> x.withdraw(0));
        due.is("the other waits", x.ofMachine(0, 5), 1);
        x.tick(4);
        x.withdraw(1);
        due.is("just ahead of its time", x.ofPath(1, 0), SkyLanes.WITHDRAWN);
        x.tick(1);
        due.is("it stays on the ground", x.ofMachine(0, 0), SkyLanes.PARKED);
        due.is("a third", Draft.file(x, "U1 .2 D1", 0, 6, 0), 2);
        x.tick(1);
        due.badState("at its beginning", x, () -> x.withdraw(2));
        x.tick(4);
        due.badState("at its end", x, () -> x.withdraw(2));
        Draft.file(x, "U1 .2 D1", 0, 20, 0);
        x.tick(11);
        x.lose(0);
        due.badState("broken", x, () -> x.withdraw(3));
        due.is("withdrawn", x.count(2), 2);
    }
}
