/** Promises 8 to 14: machines, the draft, what it takes, filing and withdrawing. */
public final class PathTest {
    private static final Due due = new Due();

    public static void main(String[] args) {
        machine();
        move();
        clear();
        takes();
        fileRanges();
        fileAccepted();
        fortyPaths();
        busy();
        full();
        wayOut();
        wayTowersAndSpots();
        wayEnds();
        battery();
        batteryOnTheGround();
        batteryAtTheBeginning();
        room();
        meetsInTime();
        meetsUrgency();
        meetsCause();
        orderOfReasons();
        why();
        withdraw();
        due.end();
    }

    private static void machine() {
        SkyLanes x = new SkyLanes();
        due.outside("machine(0, -1, 50)", x, () -> x.machine(0, -1, 50));
        due.outside("machine(9, 100, 50)", x, () -> x.machine(9, 100, 50));
        due.badArgument("firm -1", x, () -> x.machine(-1, 5, 50));
        due.badArgument("firm 4", x, () -> x.machine(4, 5, 50));
        due.badArgument("full 19", x, () -> x.machine(0, 5, 19));
        due.badArgument("full 201", x, () -> x.machine(0, 5, 201));
        due.badState("no spot", x, () -> x.machine(0, 5, 50));
        x.spot(5);
        due.is("the first", x.machine(0, 5, 20), 0);
        due.is("the second, at the same spot", x.machine(3, 5, 200), 1);
        int[] told = {SkyLanes.PARKED, 5, 0, 200, 3, SkyLanes.NONE};
        for (int what = 0; what <= 5; what++) {
            due.is("of the second: " + what, x.ofMachine(1, what), told[what]);
        }
        for (int i = 2; i < 10; i++) {
            due.is("machine " + i, x.machine(1, 5, 50), i);
        }
        due.badState("the eleventh", x, () -> x.machine(1, 5, 50));
        due.outside("machine 10", x, () -> x.ofMachine(10, 0));
        due.badArgument("the eleventh, of no firm", x, () -> x.machine(5, 5, 50));
        due.outside("the eleventh, nowhere", x, () -> x.machine(5, 100, 50));
    }

    private static void move() {
        SkyLanes x = new SkyLanes();
        due.badArgument("move(-1, 1)", x, () -> x.move(-1, 1));
        due.badArgument("move(7, 1)", x, () -> x.move(7, 1));
        due.badArgument("move(0, 0)", x, () -> x.move(0, 0));
        due.badArgument("move(0, 11)", x, () -> x.move(0, 11));
        due.is("move(6, 10)", x.move(6, 10), 10);
        due.is("move(5, 10)", x.move(5, 10), 20);
        due.is("move(0, 10)", x.move(0, 10), 30);
        due.is("move(1, 9)", x.move(1, 9), 39);
        due.badState("two more", x, () -> x.move(1, 2));
        due.is("one more", x.move(1, 1), 40);
        due.badState("another", x, () -> x.move(1, 1));
        due.badArgument("another that is none", x, () -> x.move(9, 1));
        due.is("clear", x.clear(), 40);
    }

    private static void clear() {
        SkyLanes x = Draft.city(0, 9);
        due.is("clear of an empty draft", x.clear(), 0);
        x.move(5, 3);
        x.move(1, 2);
        due.is("clear", x.clear(), 5);
        due.is("clear again", x.clear(), 0);
        due.is("nothing is left", x.takes(0), SkyLanes.NONE);
        Draft.file(x, "U1 E9 D1", 0, 5, 0);
        due.is("accepted, it is empty", x.clear(), 0);
        due.is("the path stays", x.placeAt(0, 7), 101);
        Draft.file(x, "U1 E9 D1", 0, 5, 0);
        due.is("refused, it is not", x.clear(), 11);
    }

    private static void takesOf(String moves, int want) {
        SkyLanes x = Draft.city(0, 1, 9);
        x.wind(1, 1);
        x.wind(2, 2);
        x.wind(3, 3);
        Draft.put(x, moves);
        due.is("takes of " + moves, x.takes(0), want);
    }

    private static void takes() {
        takesOf("", -1);
        takesOf("U1", -1);
        takesOf("U1 E1", -1);
        takesOf("W1", -1);
        takesOf("U4 D4", -1);
        takesOf("E2", -1);
        takesOf(".9", 0);
        takesOf("E1", 1);
        takesOf("E1 .3 W1", 2);
        takesOf("U1 D1", 3 + 1);
        takesOf("U1 .2 D1", 3 + 4 + 1);
        takesOf("U2 .2 D2", 3 + 4 + 6 + 2 + 1);
        takesOf("U3 .2 D3", 3 + 4 + 5 + 8 + 3 + 2 + 1);
        takesOf("U3 S2 E2 N2 W1 D3", 3 + 4 + 5 + 7 * 4 + 3 + 2 + 1);
        SkyLanes x = Draft.city(0, 9);
        x.machine(1, 0, 20);
        x.machine(2, 0, 200);
        x.close(0, 99, 3, 0, 100000);
        Draft.put(x, "U1 E9 W9 E9 D1");
        due.is("more than there is, in a closed room", x.takes(1), 30);
        due.outside("takes(3)", x, () -> x.takes(3));
        due.outside("takes(-1)", x, () -> x.takes(-1));
        x.open(0);
        due.is("accepted", Draft.file(x, "U1 E9 D1", 2, 1, 0), 0);
        Draft.put(x, "U1 E9 D1");
        due.is("with a path that waits", x.takes(2), 12);
        x.tick(1);
        due.is("as it flies", x.takes(2), SkyLanes.NONE);
        x.tick(6);
        due.is("it is lost nearer to 9", x.lose(2), 9);
        due.is("as it is lost", x.takes(2), SkyLanes.NONE);
        x.tick(20);
        due.is("from where it is now, beyond the city", x.takes(2), SkyLanes.NONE);
        Draft.put(x, "U1 W9 D1");
        due.is("from where it is now", x.takes(2), 12);
    }

    private static void fileRanges() {
        SkyLanes x = Draft.city(0, 9);
        Draft.put(x, "U1 E9 D1");
        due.outside("file(1, 1, 0)", x, () -> x.file(1, 1, 0));
        due.outside("file(-1, 0, 9)", x, () -> x.file(-1, 0, 9));
        due.badArgument("time 0", x, () -> x.file(0, 0, 0));
        due.badArgument("time 201", x, () -> x.file(0, 201, 0));
        due.badArgument("time below 0", x, () -> x.file(0, Integer.MIN_VALUE, 0));
        due.badArgument("a time far away", x, () -> x.file(0, Integer.MAX_VALUE, 0));
        due.badArgument("urgency -1", x, () -> x.file(0, 1, -1));
        due.badArgument("urgency 4", x, () -> x.file(0, 1, 4));
        x.tick(30);
        due.badArgument("time of now", x, () -> x.file(0, 30, 0));
        due.badArgument("201 from now on", x, () -> x.file(0, 231, 0));
        due.is("200 from now on", x.file(0, 230, 3), 0);
        x.withdraw(0);
        due.is("the next time", Draft.file(x, "U1 E9 D1", 0, 31, 0), 1);
    }

    private static void fileAccepted() {
        SkyLanes x = Draft.city(11, 22);
        due.is("accepted", Draft.file(x, "U1 E1 U1 S1 .1 U1 D3", 0, 7, 2), 0);
        int[] places = {-1, 11, 111, 112, 212, 222, 222, 322, 222, 122, 22, -1};
        for (int i = 0; i < places.length; i++) {
            due.is("place at " + (6 + i), x.placeAt(0, 6 + i), places[i]);
        }
        int[] told = {SkyLanes.WAITS, 0, 7, 16, 2};
        for (int what = 0; what <= 4; what++) {
            due.is("of the path: " + what, x.ofPath(0, what), told[what]);
        }
        due.is("the path of the machine", x.ofMachine(0, 5), 0);
        due.is("accepted paths", x.count(0), 1);
        due.is("no refusals", x.count(1), 0);
        SkyLanes y = Draft.city(99, 0);
        due.is("accepted, too", Draft.file(y, "U1 W9 N9 D1", 0, 1, 0), 0);
        due.is("west", y.placeAt(0, 3), 198);
        due.is("north", y.placeAt(0, 12), 180);
        due.is("at the end", y.placeAt(0, 21), 0);
    }

    private static void fortyPaths() {
        SkyLanes x = Draft.city(0, 9);
        for (int i = 0; i < 40; i++) {
            due.is("path " + i, Draft.file(x, "U1 E9 D1", 0, 10, 0), i);
            if (i < 39) x.withdraw(i);
        }
        Draft.put(x, "U1 E9 D1");
        due.badState("one more, as it has one that waits", x, () -> x.file(0, 10, 0));
        x.withdraw(39);
        due.badState("one more", x, () -> x.file(0, 10, 0));
        due.badArgument("one more, too late", x, () -> x.file(0, 201, 0));
        due.outside("one more of no machine", x, () -> x.file(1, 201, 0));
        x.clear();
        due.badState("one more, of no moves", x, () -> x.file(0, 10, 0));
        due.is("no refusals", x.count(1), 0);
        due.is("forty", x.count(0), 40);
        due.is("forty are withdrawn", x.count(2), 40);
        due.outside("path 40", x, () -> x.ofPath(40, 0));
    }

    private static void busy() {
        SkyLanes x = Draft.city(0, 9);
        x.machine(1, 9, 100);
        due.is("of the other", Draft.file(x, "U1 .1 D1", 1, 90, 0), 0);
        due.is("accepted", Draft.file(x, "U1 E9 D1", 0, 5, 0), 1);
        due.is("as it waits", Draft.file(x, "U1 E9 D1", 0, 50, 0), -SkyLanes.BUSY);
        due.is("as it waits: which", x.why(), 1);
        x.tick(5);
        due.is("as it flies", x.file(0, 50, 0), -SkyLanes.BUSY);
        due.is("as it flies: no path waits", x.why(), SkyLanes.NONE);
        x.tick(3);
        x.lose(0);
        due.is("as it is lost", x.file(0, 50, 0), -SkyLanes.BUSY);
        due.is("as it is lost: none", x.why(), SkyLanes.NONE);
        due.is("refusals", x.count(1), 3);
        SkyLanes y = Draft.city(0);
        y.gust(1, 5);
        Draft.file(y, "U1 .10 .10 D1", 0, 1, 0);
        y.tick(30);
        due.is("it is down", y.ofMachine(0, 0), SkyLanes.DOWN);
        due.is("as it is down", Draft.file(y, "U1 .1 D1", 0, 50, 0), -SkyLanes.BUSY);
        due.is("as it is down: none", y.why(), SkyLanes.NONE);
    }

    private static void full() {
        SkyLanes x = Draft.city(0, 20, 40, 60, 80);
        x.machine(0, 20, 100);
        x.machine(0, 40, 100);
        x.machine(0, 60, 100);
        x.machine(1, 80, 100);
        for (int i = 0; i < 3; i++) {
            due.is("path " + i, Draft.file(x, "U1 .3 D1", i, 10 + 10 * i, 0), i);
        }
        due.is("the fourth", Draft.file(x, "U1 .3 D1", 3, 50, 0), -SkyLanes.FULL);
        due.is("the fourth: why", x.why(), SkyLanes.NONE);
        due.is("of another firm", x.file(4, 50, 0), 3);
        x.tick(9);
        due.is("still", Draft.file(x, "U1 .3 D1", 3, 50, 0), -SkyLanes.FULL);
        x.tick(1);
        due.is("as one flies", x.file(3, 50, 0), 4);
        x.tick(10);
        due.is("as it is parked again, and two fly or ended", Draft.file(x, "U1 .3 D1", 0, 90, 0), 5);
        due.is("again three", x.ofMachine(1, 0), SkyLanes.FLIES);
        x.withdraw(4);
        due.is("as one is withdrawn", Draft.file(x, "U1 .3 D1", 3, 60, 0), 6);
    }

    private static void refusedWay(String moves, int start, int where) {
        SkyLanes x = Draft.city(start, 30, 10, 99, 90);
        due.is("way " + moves, Draft.file(x, moves, 0, 1, 0), -SkyLanes.WAY);
        due.is("way " + moves + ": where", x.why(), where);
        due.is("way " + moves + ": refusals", x.count(1), 1);
        due.is("way " + moves + ": takes", x.takes(0), SkyLanes.NONE);
    }

    private static void wayOut() {
        refusedWay("U1 E10 D1", 19, 2);
        refusedWay("U1 W1 D1", 0, 2);
        refusedWay("U1 N1 S1 D1", 5, 2);
        refusedWay("U1 S1 N1 D1", 95, 2);
        refusedWay("U1 W1 S1 D1", 20, 2);
        refusedWay("E1 W1", 29, 1);
        refusedWay("U4 D4", 0, 4);
        refusedWay("U3 .2 U1 D4", 0, 6);
        refusedWay("D1 U1", 0, 1);
        refusedWay("U2 D3 U1", 0, 5);
        refusedWay("N1 S1", 0, 1);
    }

    private static void wayTowersAndSpots() {
        for (int height = 0; height <= 3; height++) {
            for (int layer = 1; layer <= 3; layer++) {
                SkyLanes x = Draft.city(0, 9);
                x.tower(6, height);
                boolean free = layer > height;
                String moves = "U" + layer + " E9 D" + layer;
                due.is("tower " + height + " layer " + layer, Draft.file(x, moves, 0, 1, 0), free ? 0 : -3);
                due.is("where", x.why(), free ? -1 : layer + 6);
            }
        }
        SkyLanes x = Draft.city(0, 9);
        x.tower(3, 1);
        due.is("down into a tower", Draft.file(x, "U2 E3 D1 U1 E6 D2", 0, 1, 0), -3);
        due.is("down into a tower: where", x.why(), 6);
        due.is("on the ground, no spot", Draft.file(x, "U1 E2 D1 U1 E7 D1", 0, 1, 0), -3);
        due.is("on the ground: where", x.why(), 4);
        due.is("beside on the ground", Draft.file(x, "E1 W1", 0, 1, 0), -3);
        due.is("beside on the ground: where", x.why(), 1);
        x.spot(2);
        due.is("down at a spot on the way", Draft.file(x, "U1 E2 D1 U2 E7 D2", 0, 1, 0), 0);
    }

    private static void wayEnds() {
        refusedWay("", 0, 0);
        refusedWay("U1", 0, 1);
        refusedWay("U3 E5 .1", 0, 9);
        refusedWay("U1 D1 U1", 0, 3);
        refusedWay("U1 E10 W9 E9 .10 S1", 0, 11);
        SkyLanes x = Draft.city(0);
        due.is("waits on the ground", Draft.file(x, ".1", 0, 1, 0), 0);
        x.tick(1);
        due.is("it flies on the ground", x.ofMachine(0, 0), SkyLanes.FLIES);
        x.tick(1);
        due.is("it has ended", x.ofPath(0, 0), SkyLanes.ENDED);
    }

    private static SkyLanes small(int... spots) {
        SkyLanes x = new SkyLanes();
        for (int cell : spots) {
            x.spot(cell);
        }
        x.machine(0, spots[0], 20);
        return x;
    }

    private static void battery() {
        SkyLanes x = small(0);
        due.is("9 waits", Draft.file(x, "U1 .9 D1", 0, 1, 0), -SkyLanes.BATTERY);
        due.is("9 waits: where", x.why(), 10);
        due.is("8 waits", Draft.file(x, "U1 .8 D1", 0, 1, 0), 0);
        SkyLanes y = small(0, 9);
        due.is("all the way", Draft.file(y, "U1 E9 D1", 0, 1, 0), -SkyLanes.BATTERY);
        due.is("all the way: 13 left, 4 from home", y.why(), 6);
        y.wind(1, 1);
        due.is("with wind", y.file(0, 1, 0), -SkyLanes.BATTERY);
        due.is("with wind: 11 left, 3 from home", y.why(), 4);
        y.gust(1, 5);
        y.wind(1, 0);
        due.is("a gust is not foretold", y.file(0, 1, 0), -SkyLanes.BATTERY);
        due.is("a gust is not foretold: where", y.why(), 6);
        y.spot(5);
        due.is("with a spot between, 3 less", Draft.file(y, "U1 E5 D1", 0, 1, 0), 0);
    }

    private static void batteryOnTheGround() {
        SkyLanes x = small(0, 1);
        StringBuilder moves = new StringBuilder("E1");
        for (int i = 0; i < 10; i++) {
            moves.append(" W1 E1");
        }
        due.is("21 moves", Draft.file(x, moves.toString(), 0, 1, 0), -SkyLanes.BATTERY);
        due.is("21 moves: where", x.why(), 21);
        moves.setLength(moves.length() - 3);
        moves.append(" .9");
        due.is("20 moves, and waits on the ground", Draft.file(x, moves.toString(), 0, 1, 0), 0);
        x.tick(21);
        due.is("nothing left", x.ofMachine(0, 3), 0);
        x.tick(9);
        due.is("it is parked", x.ofMachine(0, 0), SkyLanes.PARKED);
        due.is("no charge as it flies", x.ofMachine(0, 3), 0);
        x.tick(1);
        due.is("charged", x.ofMachine(0, 3), 5);
    }

    private static void batteryAtTheBeginning() {
        SkyLanes x = small(0);
        Draft.file(x, "U1 .8 D1", 0, 1, 0);
        x.tick(11);
        due.is("parked with 9", x.ofMachine(0, 3), 9);
        Draft.put(x, "U1 .8 D1");
        due.is("with 14", x.file(0, 12, 0), -SkyLanes.BATTERY);
        due.is("with 14: where", x.why(), 4);
        due.is("with 19", x.file(0, 13, 0), -SkyLanes.BATTERY);
        due.is("with 19: where", x.why(), 9);
        due.is("with 20", x.file(0, 14, 0), 1);
        x.withdraw(1);
        due.is("not above full", Draft.file(x, "U1 .9 D1", 0, 211, 0), -SkyLanes.BATTERY);
        due.is("not above full: where", x.why(), 10);
    }

    private static void room() {
        SkyLanes x = Draft.city(0, 9);
        x.close(0, 99, 3, 500, 600);
        x.close(8, 8, 1, 0, 600);
        x.close(3, 3, 1, 0, 600);
        due.is("in two rooms", Draft.file(x, "U1 E9 D1", 0, 1, 0), -SkyLanes.ROOM);
        due.is("the lower one, though it comes later", x.why(), 1);
        x.open(1);
        due.is("in one", x.file(0, 1, 0), -SkyLanes.ROOM);
        due.is("in one: which", x.why(), 2);
        due.is("above them", Draft.file(x, "U2 E9 D2", 0, 1, 0), 0);
        x.withdraw(0);
        x.close(0, 0, 3, 10, 10);
        due.is("ahead of its time", Draft.file(x, "U2 E9 D2", 0, 8, 0), -SkyLanes.ROOM);
        due.is("on the ground at its time", Draft.file(x, "U2 E9 D2", 0, 10, 0), 1);
        x.withdraw(1);
        due.is("at its time", Draft.file(x, "U2 E9 D2", 0, 9, 0), -SkyLanes.ROOM);
        due.is("away at its time", Draft.file(x, "U2 E9 D2", 0, 7, 0), 2);
    }

    private static void meetsInTime() {
        for (int time = 6; time <= 14; time++) {
            SkyLanes x = Draft.city(0);
            x.machine(1, 0, 100);
            Draft.file(x, "U1 D1", 0, 10, 2);
            boolean near = time >= 9 && time <= 11;
            due.is("filed for " + time, Draft.file(x, "U1 D1", 1, time, 2), near ? -SkyLanes.MEETS : 1);
        }
        SkyLanes x = Draft.city(0, 1);
        x.machine(1, 1, 100);
        Draft.file(x, "U1 E1 D1", 0, 1, 2);
        due.is("they change places", Draft.file(x, "U1 W1 D1", 1, 1, 2), -SkyLanes.MEETS);
        due.is("on the ground they may", Draft.file(x, "W1 E1 W1", 1, 1, 2), 1);
        SkyLanes y = Draft.city(0, 9);
        y.machine(1, 9, 100);
        Draft.file(y, "U1 E9 D1", 0, 1, 2);
        due.is("in another layer", Draft.file(y, "U1 .1 U1 W7 D1 U1 W2 D2", 1, 1, 2), 1);
    }

    private static void meetsUrgency() {
        for (int one = 0; one <= 3; one++) {
            for (int two = 0; two <= 3; two++) {
                SkyLanes x = Draft.city(0);
                x.machine(1, 0, 100);
                Draft.file(x, "U1 D1", 0, 10, one);
                boolean way = two < one;
                due.is(two + " against " + one, Draft.file(x, "U1 D1", 1, 10, two), way ? 1 : -SkyLanes.MEETS);
                due.is("the other", x.ofPath(0, 0), way ? SkyLanes.WITHDRAWN : SkyLanes.WAITS);
                due.is("its machine", x.ofMachine(0, 5), way ? SkyLanes.NONE : 0);
                due.is("the draft", x.clear(), way ? 0 : 2);
            }
        }
        SkyLanes x = Draft.city(0);
        x.machine(1, 0, 100);
        Draft.file(x, "U1 .5 D1", 0, 1, 3);
        x.tick(1);
        due.is("against one that flies", Draft.file(x, "U1 D1", 1, 3, 0), -SkyLanes.MEETS);
        due.is("against one that flies: which", x.why(), 0);
        x.tick(1);
        x.lose(0);
        due.is("against one that is broken", x.file(1, 3, 0), 1);
    }

    private static void meetsCause() {
        SkyLanes x = Draft.city(0);
        for (int i = 1; i <= 4; i++) {
            x.machine(i % 4, 0, 100);
        }
        Draft.file(x, "U1 D1", 0, 10, 3);
        Draft.file(x, "U1 D1", 1, 12, 1);
        Draft.file(x, "U1 D1", 2, 14, 0);
        Draft.file(x, "U1 D1", 3, 16, 2);
        due.is("it meets three", Draft.file(x, "U1 .4 D1", 4, 9, 1), -SkyLanes.MEETS);
        due.is("the lowest that does not give way", x.why(), 1);
        for (int i = 0; i < 4; i++) {
            due.is("path " + i + " waits", x.ofPath(i, 0), SkyLanes.WAITS);
        }
        due.is("it meets two", Draft.file(x, "U1 .3 D1", 4, 9, 0), 4);
        int[] states = {SkyLanes.WITHDRAWN, SkyLanes.WITHDRAWN, SkyLanes.WAITS, SkyLanes.WAITS, SkyLanes.WAITS};
        for (int i = 0; i < 5; i++) {
            due.is("path " + i + " then", x.ofPath(i, 0), states[i]);
        }
        due.is("withdrawn", x.count(2), 2);
        x.withdraw(4);
        due.is("the withdrawn ones are met by none", Draft.file(x, "U1 .3 D1", 4, 9, 3), 5);
    }

    private static void orderOfReasons() {
        SkyLanes x = Draft.city(0, 20, 40, 60, 80);
        x.machine(0, 20, 100);
        x.machine(0, 40, 100);
        x.machine(0, 60, 20);
        x.close(60, 60, 3, 0, 1000);
        x.machine(1, 60, 20);
        Draft.file(x, "U1 D1", 0, 10, 0);
        Draft.file(x, "U1 D1", 1, 10, 0);
        Draft.file(x, "U1 D1", 2, 10, 0);
        due.is("busy ahead of full, and of the way", Draft.file(x, "U4", 0, 10, 0), -1);
        due.is("full ahead of the way", x.file(3, 10, 0), -2);
        x.withdraw(0);
        due.is("the way ahead of the battery", Draft.file(x, "U1 .10 .10 U3", 3, 10, 0), -3);
        due.is("the way ahead of it: where", x.why(), 24);
        due.is("the battery ahead of the room", Draft.file(x, "U1 .10 .10 D1", 3, 10, 0), -4);
        due.is("the room", Draft.file(x, "U1 .5 D1", 3, 10, 0), -5);
        x.open(0);
        due.is("nothing", x.file(3, 10, 0), 3);
        x.close(60, 60, 3, 100, 1000);
        due.is("the room ahead of the meeting", Draft.file(x, "U1 .7 D1", 4, 91, 0), 4);
        x.withdraw(4);
        Draft.file(x, "U1 .5 D1", 4, 13, 3);
        due.is("meeting", x.why(), 3);
        x.close(60, 60, 3, 17, 17);
        due.is("room, not meeting", x.file(4, 13, 3), -5);
    }

    private static void why() {
        SkyLanes x = Draft.city(0, 9);
        due.is("without one", x.why(), SkyLanes.NONE);
        Draft.file(x, "U4", 0, 1, 0);
        due.is("a way", x.why(), 4);
        due.badArgument("an exception is no refusal", x, () -> x.file(0, 0, 0));
        Draft.file(x, "U1 E9 D1", 0, 3, 0);
        due.is("it stays as one is accepted", x.why(), 4);
        x.tick(2);
        x.withdraw(0);
        due.is("it stays", x.why(), 4);
        due.is("takes is no refusal", x.takes(0), SkyLanes.NONE);
        due.is("it stays still", x.why(), 4);
        Draft.file(x, "U1", 0, 3, 0);
        due.is("the latest", x.why(), 1);
        Draft.file(x, "U1 E9 D1", 0, 3, 0);
        x.tick(1);
        Draft.file(x, "U1 E9 D1", 0, 30, 0);
        due.is("the latest, without a cause", x.why(), SkyLanes.NONE);
    }

    private static void withdraw() {
        SkyLanes x = Draft.city(0, 9);
        Draft.file(x, "U1 E9 D1", 0, 3, 0);
        due.outside("withdraw(1)", x, () -> x.withdraw(1));
        due.outside("withdraw(-1)", x, () -> x.withdraw(-1));
        x.withdraw(0);
        due.is("it is", x.ofPath(0, 0), SkyLanes.WITHDRAWN);
        due.is("the machine has none", x.ofMachine(0, 5), SkyLanes.NONE);
        due.badState("again", x, () -> x.withdraw(0));
        x.tick(5);
        due.is("it does not fly", x.ofMachine(0, 0), SkyLanes.PARKED);
        due.is("another", Draft.file(x, "U1 E9 D1", 0, 6, 0), 1);
        x.tick(1);
        due.badState("one that flies", x, () -> x.withdraw(1));
        x.tick(11);
        due.is("it has ended", x.ofPath(1, 0), SkyLanes.ENDED);
        due.badState("one that ended", x, () -> x.withdraw(1));
        Draft.file(x, "U1 W9 D1", 0, 18, 0);
        x.tick(3);
        x.lose(0);
        due.badState("one that is broken", x, () -> x.withdraw(2));
        due.is("withdrawn", x.count(2), 1);
    }
}
