/** The boundary cases of "Rooms" and of the promises 6 and 7; each test quotes its sentence. */
public final class RoomEdgesTest {
    private static final Due due = new Due();

    public static void main(String[] args) {
        tenRooms();
        cellsBetweenTwo();
        layersOfARoom();
        timesOfARoom();
        rangesOfTimes();
        rangesOfLayers();
        pathsThatWaitAreWithdrawn();
        otherPathsStay();
        aRefusedRoomWithdrawsNothing();
        openedForGood();
        openedWhileItIsUsed();
        due.end();
    }

    /** "Rooms are numbered from 0, at most 10", "IllegalStateException if there are 10" */
    private static void tenRooms() {
        SkyLanes x = new SkyLanes();
        due.outside("room 0 of none", x, () -> x.open(0));
        for (int i = 0; i < 10; i++) {
            int next = i + 1;
            due.is("room " + i, x.close(i, i, 1, 0, 0), i);
            due.outside("no room " + next, x, () -> x.open(next));
        }
        due.badState("the eleventh", x, () -> x.close(0, 0, 1, 0, 0));
        due.outside("room -1", x, () -> x.open(-1));
        x.open(9);
        x.open(0);
        due.badState("the tenth is open", x, () -> x.open(9));
        due.badState("the eleventh, two being open", x, () -> x.close(0, 0, 1, 0, 0));
    }

    /** Whether "U1 D1" above a cell is in a room between two cells. */
    private static boolean closed(int place, int cell, int other) {
        SkyLanes x = Draft.city(place);
        x.close(cell, other, 1, 0, 1000);
        int got = Draft.file(x, "U1 D1", 0, 1, 0);
        due.is("a room or none", got == 0 || got == -SkyLanes.ROOM, true);
        return got == -SkyLanes.ROOM;
    }

    /** "a room is closed in all cells whose x and y are between those of two cells, with these" */
    private static void cellsBetweenTwo() {
        int[][] rooms = {{23, 56}, {56, 23}, {26, 53}, {53, 26}, {44, 44}, {0, 99}, {99, 0}, {9, 90}, {40, 49}, {94, 4},
            {0, 0}, {99, 99}};
        for (int[] room : rooms) {
            for (int place = 0; place < 100; place++) {
                boolean inX = between(place % 10, room[0] % 10, room[1] % 10);
                boolean inY = between(place / 10, room[0] / 10, room[1] / 10);
                String name = place + " between " + room[0] + " and " + room[1];
                due.is(name, closed(place, room[0], room[1]), inX && inY);
            }
        }
    }

    private static boolean between(int v, int one, int other) {
        return Math.min(one, other) <= v && v <= Math.max(one, other);
    }

    /** "in the layers 1 to some layer": 1 and the layer with them, the ground not. */
    private static void layersOfARoom() {
        for (int layer = 1; layer <= 3; layer++) {
            for (int at = 0; at <= 3; at++) {
                SkyLanes x = Draft.city(70);
                x.close(70, 70, layer, 10 + at, 10 + at);
                int got = Draft.file(x, "U3 D3", 0, 10, 0);
                boolean in = at >= 1 && at <= layer;
                due.is("at the layer " + at + " of a room to " + layer, got, in ? -SkyLanes.ROOM : 0);
            }
        }
    }

    /** "for some times, the first and the last one with them" */
    private static void timesOfARoom() {
        for (int from = 8; from <= 15; from++) {
            for (int to = from; to <= 15; to++) {
                SkyLanes x = Draft.city(70);
                x.close(70, 70, 1, from, to);
                boolean in = from <= 12 && to >= 11;
                int got = Draft.file(x, "U1 .1 D1", 0, 10, 0);
                due.is("at 11 and 12, closed from " + from + " to " + to, got, in ? -SkyLanes.ROOM : 0);
            }
        }
    }

    /** "from: 0 to 100000", "to: from to 100000" */
    private static void rangesOfTimes() {
        SkyLanes x = new SkyLanes();
        due.badArgument("from -1", x, () -> x.close(0, 0, 1, -1, 5));
        due.badArgument("from the lowest number", x, () -> x.close(0, 0, 1, Integer.MIN_VALUE, 5));
        due.badArgument("from 100001", x, () -> x.close(0, 0, 1, 100001, 100001));
        due.badArgument("to 100001", x, () -> x.close(0, 0, 1, 0, 100001));
        due.badArgument("to the highest number", x, () -> x.close(0, 0, 1, 0, Integer.MAX_VALUE));
        due.badArgument("to one ahead of from", x, () -> x.close(0, 0, 1, 7, 6));
        due.badArgument("to -1", x, () -> x.close(0, 0, 1, 0, -1));
        due.is("from 0 to 0", x.close(0, 0, 1, 0, 0), 0);
        due.is("from 0 to 100000", x.close(0, 0, 1, 0, 100000), 1);
        due.is("from 100000 to 100000", x.close(0, 0, 1, 100000, 100000), 2);
        due.is("from 7 to 7", x.close(0, 0, 1, 7, 7), 3);
        x.tick(50);
        due.is("times that are gone", x.close(0, 0, 1, 3, 4), 4);
    }

    /** "layer: 1 to 3" */
    private static void rangesOfLayers() {
        SkyLanes x = new SkyLanes();
        for (int layer : new int[] {-1, 0, 4, Integer.MIN_VALUE, Integer.MAX_VALUE}) {
            due.badArgument("the layer " + layer, x, () -> x.close(0, 0, layer, 0, 0));
        }
        for (int layer = 1; layer <= 3; layer++) {
            due.is("the layer " + layer, x.close(0, 0, layer, 0, 0), layer - 1);
        }
    }

    /** "Paths that wait and are in a room as it is closed are WITHDRAWN." */
    private static void pathsThatWaitAreWithdrawn() {
        SkyLanes x = Draft.city(0, 5, 50, 55);
        x.machine(1, 5, 100);
        x.machine(2, 50, 100);
        x.machine(3, 55, 100);
        for (int m = 0; m < 4; m++) {
            due.is("path " + m, Draft.file(x, "U1 .3 D1", m, 10, m), m);
        }
        x.close(0, 5, 1, 15, 20);
        due.is("their last time is 14", x.count(2), 0);
        x.close(0, 5, 1, 14, 20);
        int[] states = {SkyLanes.WITHDRAWN, SkyLanes.WITHDRAWN, SkyLanes.WAITS, SkyLanes.WAITS};
        for (int m = 0; m < 4; m++) {
            due.is("state of " + m, x.ofPath(m, 0), states[m]);
            due.is("path of " + m, x.ofMachine(m, 5), m < 2 ? SkyLanes.NONE : m);
        }
        due.is("withdrawn", x.count(2), 2);
        due.is("no refusal", x.count(1), 0);
        due.is("nothing to tell of", x.why(), SkyLanes.NONE);
        x.close(0, 99, 3, 0, 10);
        due.is("on the ground at 10", x.count(2), 2);
        x.close(0, 99, 1, 11, 11);
        due.is("the rest", x.count(2), 4);
        x.tick(12);
        due.is("none flies", x.ofMachine(2, 0), SkyLanes.PARKED);
    }

    /** "Paths that wait": one that FLIES goes on into the room, one that is BROKEN or ENDED stays so. */
    private static void otherPathsStay() {
        SkyLanes x = Draft.city(0, 5, 50);
        x.machine(1, 5, 100);
        x.machine(2, 50, 100);
        Draft.file(x, "U1 .3 D1", 0, 1, 0);
        Draft.file(x, "U1 .9 D1", 1, 1, 0);
        Draft.file(x, "U1 D1", 2, 1, 0);
        x.tick(3);
        x.lose(1);
        x.close(0, 99, 3, 0, 100);
        int[] states = {SkyLanes.FLIES, SkyLanes.BROKEN, SkyLanes.ENDED};
        for (int path = 0; path < 3; path++) {
            due.is("state of " + path, x.ofPath(path, 0), states[path]);
        }
        due.is("withdrawn", x.count(2), 0);
        due.is("the path of the machine that flies", x.ofMachine(0, 5), 0);
        x.tick(3);
        due.is("it ended", x.ofPath(0, 0), SkyLanes.ENDED);
        due.is("it is parked", x.ofMachine(0, 0), SkyLanes.PARKED);
    }

    /** "A call that throws an exception changes nothing." */
    private static void aRefusedRoomWithdrawsNothing() {
        SkyLanes x = Draft.city(0, 5);
        Draft.file(x, "U1 E5 D1", 0, 5, 0);
        due.outside("of no cell", x, () -> x.close(0, 100, 3, 0, 100));
        due.badArgument("of no layer", x, () -> x.close(0, 99, 4, 0, 100));
        due.badArgument("of no time", x, () -> x.close(0, 99, 3, 9, 8));
        for (int i = 0; i < 10; i++) {
            due.is("room " + i, x.close(90, 99, 3, 0, 100), i);
        }
        due.badState("the eleventh", x, () -> x.close(0, 99, 3, 0, 100));
        due.is("it waits", x.ofPath(0, 0), SkyLanes.WAITS);
        x.tick(6);
        due.is("it flies", x.ofPath(0, 0), SkyLanes.FLIES);
        due.is("no alert", x.alerts(), 0);
    }

    /** "Opens a room, for good.", "IllegalStateException if it was opened" */
    private static void openedForGood() {
        SkyLanes x = Draft.city(0, 5);
        x.close(0, 99, 3, 0, 100);
        x.close(3, 3, 3, 0, 40);
        x.open(0);
        due.badState("again", x, () -> x.open(0));
        due.is("in the other", Draft.file(x, "U1 E5 D1", 0, 5, 0), -SkyLanes.ROOM);
        due.is("the other", x.why(), 1);
        x.tick(50);
        due.badState("later on", x, () -> x.open(0));
        due.is("a new one", x.close(0, 99, 3, 0, 200), 2);
        due.badState("the old one still", x, () -> x.open(0));
        due.is("in the new one as well", x.file(0, 55, 0), -SkyLanes.ROOM);
        due.is("the time of the other is over", x.why(), 2);
        x.open(2);
        x.open(1);
        due.is("in none", x.file(0, 55, 0), 0);
    }

    /** An opened room counts for no filing, no hold and no alert, and brings no path back. */
    private static void openedWhileItIsUsed() {
        SkyLanes x = Draft.city(0, 5);
        Draft.file(x, "U1 E5 D1", 0, 5, 0);
        x.close(3, 3, 3, 0, 1000);
        due.is("withdrawn", x.ofPath(0, 0), SkyLanes.WITHDRAWN);
        x.open(0);
        due.is("withdrawn still", x.ofPath(0, 0), SkyLanes.WITHDRAWN);
        due.is("no path", x.ofMachine(0, 5), SkyLanes.NONE);
        due.is("filed anew", Draft.file(x, "U1 E5 D1", 0, 5, 0), 1);
        x.tick(6);
        x.close(3, 3, 3, 0, 1000);
        due.is("alerted", x.alerts(), 1);
        due.badState("not to be held", x, () -> x.hold(0, 1));
        x.open(1);
        due.is("not alerted", x.alerts(), 0);
        due.is("held", x.hold(0, 1), 13);
    }
}
