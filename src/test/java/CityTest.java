/** Promises 1 to 7: a new object, towers, spots, winds, gusts and rooms. */
public final class CityTest {
    private static final Due due = new Due();

    public static void main(String[] args) {
        newObject();
        tower();
        spot();
        wind();
        gust();
        gustOfTheHomeLayer();
        closeNumbersAndRanges();
        closeWithdraws();
        closeInTimeAndLayers();
        closeBetweenAnyCorners();
        closeOfMany();
        open();
        due.end();
    }

    private static void newObject() {
        SkyLanes x = new SkyLanes();
        due.is("time", x.time(), 0);
        due.is("why", x.why(), SkyLanes.NONE);
        due.is("alerts", x.alerts(), 0);
        due.is("clear", x.clear(), 0);
        for (int what = 0; what <= 4; what++) {
            due.is("count " + what, x.count(what), 0);
        }
        due.outside("a machine of a new city", x, () -> x.ofMachine(0, 0));
        due.outside("a path of a new city", x, () -> x.ofPath(0, 0));
        due.outside("a room of a new city", x, () -> x.open(0));
        for (int cell = 0; cell < 100; cell++) {
            due.is("home " + cell, x.home(cell), SkyLanes.NONE);
            due.is("tower " + cell, x.tower(cell, 0), 0);
        }
        for (int layer = 1; layer <= 3; layer++) {
            due.is("wind " + layer, x.wind(layer, 3), 0);
            due.is("gust " + layer, x.gust(layer, 5), 0);
        }
        x.spot(3);
        x.tick(7);
        SkyLanes y = new SkyLanes();
        due.is("time of another", y.time(), 0);
        due.is("wind of another", y.wind(1, 0), 0);
        due.is("spots of another", y.spot(3), 1);
    }

    private static void tower() {
        SkyLanes x = Draft.city(50, 59);
        due.is("tower", x.tower(0, 3), 0);
        due.is("tower again", x.tower(0, 1), 3);
        due.is("tower away", x.tower(0, 0), 1);
        due.is("tower at the last cell", x.tower(99, 2), 0);
        due.outside("tower(-1, 1)", x, () -> x.tower(-1, 1));
        due.outside("tower(100, 1)", x, () -> x.tower(100, 1));
        due.outside("tower(100, 4)", x, () -> x.tower(100, 4));
        due.badArgument("tower(5, -1)", x, () -> x.tower(5, -1));
        due.badArgument("tower(5, 4)", x, () -> x.tower(5, 4));
        due.badArgument("tower(50, 4)", x, () -> x.tower(50, 4));
        due.badState("tower on a spot", x, () -> x.tower(50, 1));
        due.badState("no tower on a spot", x, () -> x.tower(50, 0));
        Draft.file(x, "U4 D4", 0, 1, 0);
        due.is("tower behind a refusal", x.tower(54, 1), 0);
        due.is("into the tower", Draft.file(x, "U1 E9 D1", 0, 1, 0), -3);
        due.is("into the tower: where", x.why(), 5);
        due.is("above the tower", Draft.file(x, "U2 E9 D2", 0, 1, 0), 0);
        due.badState("tower behind an accepted path", x, () -> x.tower(0, 1));
        x.withdraw(0);
        due.badState("tower behind a path that is withdrawn", x, () -> x.tower(0, 1));
        due.badArgument("a tower too high behind it", x, () -> x.tower(0, 4));
        due.outside("a tower nowhere behind it", x, () -> x.tower(-5, 4));
    }

    private static void spot() {
        SkyLanes x = new SkyLanes();
        due.outside("spot(-1)", x, () -> x.spot(-1));
        due.outside("spot(100)", x, () -> x.spot(100));
        x.tower(4, 1);
        due.badState("a spot on a tower", x, () -> x.spot(4));
        due.is("the first", x.spot(0), 1);
        due.is("the last cell", x.spot(99), 2);
        due.badState("one twice", x, () -> x.spot(0));
        x.tower(4, 0);
        due.is("where a tower was", x.spot(4), 3);
        for (int i = 4; i <= 8; i++) {
            due.is("spot " + i, x.spot(10 * i), i);
        }
        due.badState("the ninth", x, () -> x.spot(77));
        due.badState("one of eight again", x, () -> x.spot(99));
        due.outside("the ninth nowhere", x, () -> x.spot(100));
        SkyLanes y = Draft.city(0);
        due.is("no spot yet", Draft.file(y, "U1 E3 D1", 0, 1, 0), -3);
        due.is("no spot yet: where", y.why(), 5);
        due.is("spot(3)", y.spot(3), 2);
        due.is("a spot now", y.file(0, 1, 0), 0);
        y.tick(3);
        due.is("a spot while one flies", y.spot(6), 3);
    }

    private static void wind() {
        SkyLanes x = Draft.city(0, 9);
        due.badArgument("wind(0, 1)", x, () -> x.wind(0, 1));
        due.badArgument("wind(4, 1)", x, () -> x.wind(4, 1));
        due.badArgument("wind(1, -1)", x, () -> x.wind(1, -1));
        due.badArgument("wind(1, 4)", x, () -> x.wind(1, 4));
        due.is("wind(1, 3)", x.wind(1, 3), 0);
        due.is("wind(1, 1)", x.wind(1, 1), 3);
        due.is("wind(2, 2)", x.wind(2, 2), 0);
        due.is("wind(3, 3)", x.wind(3, 3), 0);
        Draft.put(x, "U1 E9 D1");
        due.is("in the layer 1", x.takes(0), 3 + 9 * 2 + 1);
        Draft.put(x, "U2 E9 D2");
        due.is("in the layer 2", x.takes(0), 3 + 4 + 9 * 3 + 2 + 1);
        Draft.put(x, "U3 E9 D3");
        due.is("in the layer 3", x.takes(0), 3 + 4 + 5 + 9 * 4 + 3 + 2 + 1);
        x.wind(3, 0);
        due.is("without the wind of the layer 3", x.takes(0), 3 + 4 + 2 + 9 + 3 + 2 + 1);
        due.is("wind(3, 1)", x.wind(3, 1), 0);
        due.is("it flies", x.file(0, 1, 0), 0);
        x.tick(4);
        due.is("the wind takes nothing, the gust does", x.ofMachine(0, 3), 100 - 6);
    }

    private static void gust() {
        SkyLanes x = Draft.city(0, 9);
        due.badArgument("gust(0, 1)", x, () -> x.gust(0, 1));
        due.badArgument("gust(4, 1)", x, () -> x.gust(4, 1));
        due.badArgument("gust(1, -1)", x, () -> x.gust(1, -1));
        due.badArgument("gust(1, 6)", x, () -> x.gust(1, 6));
        due.is("gust(1, 5)", x.gust(1, 5), 0);
        due.is("gust(1, 2)", x.gust(1, 2), 5);
        due.is("gust(2, 3)", x.gust(2, 3), 0);
        due.is("gust(3, 4)", x.gust(3, 4), 0);
        Draft.put(x, "U3 E9 D3");
        due.is("a gust is not foretold", x.takes(0), 6 + 9 + 3);
        x.file(0, 1, 0);
        int[] left = {100, 96, 91, 85, 80};
        for (int i = 0; i < left.length; i++) {
            x.tick(1);
            due.is("left " + i, x.ofMachine(0, 3), left[i]);
        }
        due.is("gust(3, 0)", x.gust(3, 0), 4);
        x.tick(1);
        due.is("left without it", x.ofMachine(0, 3), 79);
    }

    private static void gustOfTheHomeLayer() {
        SkyLanes x = Draft.city(0, 9);
        x.gust(1, 1);
        x.gust(2, 2);
        x.gust(3, 3);
        Draft.file(x, "U1 E2 W2 D1", 0, 1, 0);
        x.tick(4);
        due.is("at the layer 1", x.ofMachine(0, 3), 100 - 3 - 2 - 2);
        due.is("lose", x.lose(0), 0);
        int[] takes = {4, 5, 5, 4, 4, 4, 3, 2, 1};
        int left = x.ofMachine(0, 3);
        for (int take : takes) {
            x.tick(1);
            left -= take;
            due.is("left on the way home", x.ofMachine(0, 3), left);
        }
        due.is("home", x.ofMachine(0, 0), SkyLanes.PARKED);
    }

    private static void closeNumbersAndRanges() {
        SkyLanes x = Draft.city(0, 9);
        due.outside("close(-1, 0, ..)", x, () -> x.close(-1, 0, 1, 0, 0));
        due.outside("close(100, 0, ..)", x, () -> x.close(100, 0, 1, 0, 0));
        due.outside("close(0, -1, ..)", x, () -> x.close(0, -1, 1, 0, 0));
        due.outside("close(0, 100, ..)", x, () -> x.close(0, 100, 9, 0, 0));
        due.badArgument("layer 0", x, () -> x.close(0, 1, 0, 0, 0));
        due.badArgument("layer 4", x, () -> x.close(0, 1, 4, 0, 0));
        due.badArgument("from -1", x, () -> x.close(0, 1, 1, -1, 0));
        due.badArgument("from 100001", x, () -> x.close(0, 1, 1, 100001, 100001));
        due.badArgument("to ahead of from", x, () -> x.close(0, 1, 1, 5, 4));
        due.badArgument("to 100001", x, () -> x.close(0, 1, 1, 5, 100001));
        for (int i = 0; i < 10; i++) {
            due.is("room " + i, x.close(99, 0, 1 + i % 3, 100000 * (i % 2), 100000), i);
        }
        due.badState("the eleventh", x, () -> x.close(0, 1, 1, 0, 0));
        due.badArgument("the eleventh, in no layer", x, () -> x.close(0, 1, 0, 0, 0));
        due.outside("the eleventh, nowhere", x, () -> x.close(0, 100, 0, 0, 0));
        due.outside("room 10", x, () -> x.open(10));
        x.open(3);
        due.badState("the eleventh, as one was opened", x, () -> x.close(0, 1, 1, 0, 0));
    }

    private static void closeWithdraws() {
        SkyLanes x = Draft.city(0, 9);
        x.machine(1, 9, 100);
        Draft.file(x, "U1 E9 D1", 0, 1, 0);
        Draft.file(x, "U1 W9 D1", 1, 30, 0);
        x.tick(2);
        x.close(0, 99, 3, 0, 100000);
        due.is("one that flies goes on", x.ofPath(0, 0), SkyLanes.FLIES);
        due.is("one that waits does not", x.ofPath(1, 0), SkyLanes.WITHDRAWN);
        due.is("its machine has no path", x.ofMachine(1, 5), SkyLanes.NONE);
        due.is("withdrawn", x.count(2), 1);
        due.is("no refusal", x.count(1), 0);
        x.open(0);
        due.is("it stays withdrawn", x.ofPath(1, 0), SkyLanes.WITHDRAWN);
    }

    /** Whether a path is withdrawn by a room: it is at 20 at 5, 122 at 8, 222 at 9, 227 at 14, 129 at 17, 29 at 18. */
    private static boolean withdrawn(int cell, int other, int layer, int from, int to) {
        SkyLanes x = Draft.city(20, 29);
        Draft.file(x, "U1 E2 U1 E5 D1 E2 D1", 0, 5, 0);
        x.close(cell, other, layer, from, to);
        return x.ofPath(0, 0) == SkyLanes.WITHDRAWN;
    }

    private static void closeInTimeAndLayers() {
        due.is("at its time", withdrawn(22, 22, 1, 8, 8), true);
        due.is("ends ahead of it", withdrawn(22, 22, 1, 0, 7), false);
        due.is("begins behind it, in the layer below", withdrawn(22, 22, 1, 9, 50), false);
        due.is("begins behind it, in the layer, too", withdrawn(22, 22, 2, 9, 50), true);
        due.is("ends at its last time there", withdrawn(22, 22, 3, 0, 8), true);
        due.is("below it", withdrawn(25, 25, 1, 0, 100), false);
        due.is("up to its layer", withdrawn(25, 25, 2, 0, 100), true);
        due.is("up to above it", withdrawn(25, 25, 3, 0, 100), true);
        due.is("on the ground", withdrawn(20, 20, 3, 0, 5), false);
        due.is("just above the ground", withdrawn(20, 20, 3, 0, 6), true);
        due.is("at its last place", withdrawn(29, 29, 3, 18, 100), false);
        due.is("at the place ahead of it", withdrawn(29, 29, 3, 17, 100), true);
    }

    private static void closeBetweenAnyCorners() {
        due.is("from 11 to 33", withdrawn(11, 33, 1, 7, 8), true);
        due.is("from 33 to 11", withdrawn(33, 11, 1, 7, 8), true);
        due.is("from 13 to 31", withdrawn(13, 31, 1, 7, 8), true);
        due.is("from 31 to 13", withdrawn(31, 13, 1, 7, 8), true);
        due.is("from 22 to 99", withdrawn(22, 99, 1, 7, 8), true);
        due.is("from 0 to 21", withdrawn(0, 21, 1, 7, 8), true);
        due.is("the rows above", withdrawn(0, 19, 3, 0, 100), false);
        due.is("the rows below", withdrawn(30, 99, 3, 0, 100), false);
        due.is("a column", withdrawn(24, 94, 3, 0, 100), true);
        due.is("a column that ends ahead of the row", withdrawn(4, 14, 3, 0, 100), false);
        due.is("not all numbers between the two cells", withdrawn(17, 32, 1, 0, 8), true);
        due.is("nor those beside", withdrawn(15, 38, 1, 0, 8), false);
    }

    private static void closeOfMany() {
        SkyLanes x = Draft.city(0, 9, 90, 99);
        x.machine(1, 90, 100);
        x.machine(2, 0, 100);
        Draft.file(x, "U1 E9 D1", 0, 5, 3);
        Draft.file(x, "U1 E9 D1", 1, 5, 3);
        Draft.file(x, "U1 E9 D1", 2, 9, 0);
        x.close(0, 9, 1, 0, 100);
        due.is("the first", x.ofPath(0, 0), SkyLanes.WITHDRAWN);
        due.is("the second", x.ofPath(1, 0), SkyLanes.WAITS);
        due.is("the third, however urgent", x.ofPath(2, 0), SkyLanes.WITHDRAWN);
        due.is("withdrawn", x.count(2), 2);
    }

    private static void open() {
        SkyLanes x = Draft.city(0, 9);
        x.close(5, 5, 3, 0, 100);
        due.outside("open(-1)", x, () -> x.open(-1));
        due.outside("open(1)", x, () -> x.open(1));
        due.outside("open(10)", x, () -> x.open(10));
        due.is("closed", Draft.file(x, "U1 E9 D1", 0, 1, 0), -5);
        x.open(0);
        due.badState("open again", x, () -> x.open(0));
        due.is("opened", x.file(0, 1, 0), 0);
        x.tick(2);
        due.is("no alert by it", x.alerts(), 0);
        due.is("hold within it", x.hold(0, 5), 17);
        due.is("the next room has the next number", x.close(5, 5, 3, 0, 100), 1);
        due.is("alerts by it", x.alerts(), 1);
        x.open(1);
        due.is("none by it", x.alerts(), 0);
    }
}
