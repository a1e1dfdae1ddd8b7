/** The boundary cases of "The city" and "Rooms" and of the promises 1 to 7 and 20; each test quotes its sentence. */
public final class CityEdgesTest {
    private static final Due due = new Due();

    public static void main(String[] args) {
        aNewCityIsEmpty();
        cells0To99();
        noMoveLeadsRoundTheCity();
        noMoveOnTheGroundLeadsRoundTheCity();
        layersAboveACell();
        aTowersHeight();
        aTowersHeightIsReturned();
        layersOfATower();
        aTowerOnASpot();
        aTowerAfterAPath();
        eightSpots();
        aSpotOnATower();
        howFarTheWayHomeIs();
        noWayHome();
        ofSeveralTheLowestCell();
        windsOfLayers();
        gustsOfLayers();
        layer3IsThatOfLayer4();
        windFromNowOn();
        gustFromNowOn();
        due.end();
    }

    /** "A city without towers, spots and machines, at the time 0." */
    private static void aNewCityIsEmpty() {
        SkyLanes x = new SkyLanes();
        due.is("the time", x.time(), 0);
        for (int cell = 0; cell < 100; cell++) {
            due.is("the tower before at " + cell, x.tower(cell, 0), 0);
            due.is("home from " + cell, x.home(cell), SkyLanes.NONE);
        }
        due.outside("no machine", x, () -> x.ofMachine(0, 0));
        due.outside("no path", x, () -> x.ofPath(0, 0));
        due.outside("no room", x, () -> x.open(0));
        due.is("the draft is empty", x.clear(), 0);
        due.is("no refusal", x.why(), SkyLanes.NONE);
        for (int what = 0; what <= 4; what++) {
            due.is("count " + what, x.count(what), 0);
        }
        due.is("the first spot", x.spot(50), 1);
    }

    /** "The city has the cells 0 to 99" */
    private static void cells0To99() {
        SkyLanes x = new SkyLanes();
        for (int cell : new int[] {-1, 100, Integer.MIN_VALUE, Integer.MAX_VALUE}) {
            due.outside("tower at " + cell, x, () -> x.tower(cell, 0));
            due.outside("spot at " + cell, x, () -> x.spot(cell));
            due.outside("room from " + cell, x, () -> x.close(cell, 0, 1, 0, 0));
            due.outside("room to " + cell, x, () -> x.close(0, cell, 1, 0, 0));
            due.outside("machine at " + cell, x, () -> x.machine(0, cell, 50));
            due.outside("home from " + cell, x, () -> x.home(cell));
        }
        for (int cell : new int[] {0, 99}) {
            due.is("tower at " + cell, x.tower(cell, 1), 0);
            due.is("none at " + cell, x.tower(cell, 0), 1);
            due.is("spot at " + cell, x.spot(cell), cell == 0 ? 1 : 2);
            due.is("room at " + cell, x.close(cell, cell, 1, 0, 0), cell == 0 ? 0 : 1);
            due.is("machine at " + cell, x.machine(0, cell, 50), cell == 0 ? 0 : 1);
            due.is("home from " + cell, x.home(cell), 0);
        }
    }

    private static void way(String moves, int where, int... spots) {
        SkyLanes x = Draft.city(spots);
        String name = moves + " from " + spots[0];
        due.is(name, Draft.file(x, moves, 0, 1, 0), where == SkyLanes.NONE ? 0 : -SkyLanes.WAY);
        due.is(name + ": why", x.why(), where);
    }

    /** "the cell 10 times y and x, together, x and y being 0 to 9" */
    private static void noMoveLeadsRoundTheCity() {
        for (int i = 0; i < 10; i++) {
            way("U1 E1 W1 D1", 2, 10 * i + 9);
            way("U1 E1 W1 D1", SkyLanes.NONE, 10 * i + 8);
            way("U1 W1 E1 D1", 2, 10 * i);
            way("U1 W1 E1 D1", SkyLanes.NONE, 10 * i + 1);
            way("U1 S1 N1 D1", 2, 90 + i);
            way("U1 S1 N1 D1", SkyLanes.NONE, 80 + i);
            way("U1 N1 S1 D1", 2, i);
            way("U1 N1 S1 D1", SkyLanes.NONE, 10 + i);
        }
        way("U1 E9 S9 D1", SkyLanes.NONE, 0, 99);
        way("U1 E9 S9 E1 D1", 20, 0, 99);
        way("U1 W9 N9 D1", SkyLanes.NONE, 99, 0);
        way("U1 W9 N9 N1 D1", 20, 99, 0);
    }

    private static void noMoveOnTheGroundLeadsRoundTheCity() {
        way("E1", 1, 9, 10);
        way("W1", 1, 10, 9);
        way("S1", 1, 95, 5);
        way("N1", 1, 5, 95);
        way("E1", SkyLanes.NONE, 8, 9);
        way("W1", SkyLanes.NONE, 9, 8);
        way("S1", SkyLanes.NONE, 85, 95);
        way("N1", SkyLanes.NONE, 15, 5);
    }

    /** "Above each there are the layers 0, the ground, to 4": paths go to the layer 3, a machine that is LOST to 4. */
    private static void layersAboveACell() {
        way("U3 D3", SkyLanes.NONE, 55);
        way("U4 D4", 4, 55);
        way("D1 U1", 1, 55);
        way("U3 D4 U1", 7, 55);
        SkyLanes x = Draft.city(50);
        Draft.file(x, "U3 E3 W3 D3", 0, 1, 0);
        x.tick(7);
        due.is("lost at 53", x.lose(0), 50);
        int[] layers = {4, 4, 4, 4, 3, 2, 1, 0, 0};
        for (int layer : layers) {
            x.tick(1);
            due.is("its layer at " + x.time(), x.ofMachine(0, 2), layer);
        }
    }

    /** "A cell has a tower of a height, 0 to 3, 0 at first" */
    private static void aTowersHeight() {
        SkyLanes x = new SkyLanes();
        due.is("at first", x.tower(7, 2), 0);
        for (int height : new int[] {-1, 4, Integer.MIN_VALUE, Integer.MAX_VALUE}) {
            due.badArgument("the height " + height, x, () -> x.tower(7, height));
        }
        due.is("it stays", x.tower(7, 2), 2);
        due.is("beside it", x.tower(8, 0), 0);
    }

    /** "Returns the height before." */
    private static void aTowersHeightIsReturned() {
        SkyLanes x = new SkyLanes();
        int before = 0;
        for (int height : new int[] {0, 1, 2, 3, 3, 0, 3, 1, 0, 2}) {
            due.is("before " + height, x.tower(99, height), before);
            before = height;
        }
    }

    /** "its layers 1 to that height are not free" */
    private static void layersOfATower() {
        for (int height = 0; height <= 3; height++) {
            for (int layer = 1; layer <= 3; layer++) {
                SkyLanes x = Draft.city(40, 42);
                x.tower(41, height);
                boolean free = layer > height;
                int got = Draft.file(x, "U" + layer + " E2 D" + layer, 0, 1, 0);
                due.is("the layer " + layer + " at a tower of " + height, got, free ? 0 : -SkyLanes.WAY);
                due.is("where", x.why(), free ? SkyLanes.NONE : layer + 1);
            }
        }
    }

    /** "IllegalStateException if the cell is a spot": of each height, and it stays a spot. */
    private static void aTowerOnASpot() {
        SkyLanes x = Draft.city(33);
        for (int height = 0; height <= 3; height++) {
            int h = height;
            due.badState("a tower of " + h + " on a spot", x, () -> x.tower(33, h));
        }
        due.is("the layer 1 above it is free", Draft.file(x, "U1 D1", 0, 1, 0), 0);
    }

    /** "or a path was accepted": not one that was refused, though one that is over. */
    private static void aTowerAfterAPath() {
        SkyLanes x = Draft.city(33);
        due.is("refused", Draft.file(x, "U1", 0, 1, 0), -SkyLanes.WAY);
        due.is("after a refusal", x.tower(34, 3), 0);
        due.is("accepted", Draft.file(x, "U1 D1", 0, 1, 0), 0);
        due.badState("as it waits", x, () -> x.tower(34, 0));
        x.tick(2);
        due.badState("as it flies", x, () -> x.tower(34, 0));
        x.tick(5);
        due.is("it ended", x.ofPath(0, 0), SkyLanes.ENDED);
        due.badState("as it ended", x, () -> x.tower(34, 0));
        due.badState("of the height that it has", x, () -> x.tower(34, 3));
        SkyLanes y = Draft.city(33);
        Draft.file(y, "U1 D1", 0, 1, 0);
        y.withdraw(0);
        due.badState("as it is withdrawn", y, () -> y.tower(34, 1));
    }

    /** "At most 8 cells without towers are spots", "Returns how many there are", "or there are 8" */
    private static void eightSpots() {
        SkyLanes x = new SkyLanes();
        for (int i = 1; i <= 8; i++) {
            due.is("spot " + i, x.spot(11 * i), i);
            due.badState("the same again", x, () -> x.spot(11));
        }
        due.badState("the ninth", x, () -> x.spot(0));
        due.is("home from 0", x.home(0), 2);
        for (int i = 1; i <= 8; i++) {
            due.is("home from spot " + i, x.home(11 * i), 0);
            due.is("a machine at spot " + i, x.machine(0, 11 * i, 50), i - 1);
        }
        due.badState("no machine at the ninth", x, () -> x.machine(0, 0, 50));
    }

    /** "IllegalStateException if it is one, has a tower": of each height above 0. */
    private static void aSpotOnATower() {
        SkyLanes x = new SkyLanes();
        for (int height = 1; height <= 3; height++) {
            x.tower(60, height);
            due.badState("on a tower of " + height, x, () -> x.spot(60));
            due.is("the tower stays", x.tower(60, height), height);
        }
        due.is("there is none", x.home(60), SkyLanes.NONE);
        x.tower(60, 0);
        due.is("the tower is away", x.spot(60), 1);
    }

    /** "how far they are in x and in y, together", to "the nearest spot" */
    private static void howFarTheWayHomeIs() {
        int[] spots = {99, 37, 5};
        SkyLanes x = new SkyLanes();
        for (int cell : spots) {
            x.spot(cell);
        }
        for (int cell = 0; cell < 100; cell++) {
            int least = 99;
            for (int spot : spots) {
                least = Math.min(least, Math.abs(cell % 10 - spot % 10) + Math.abs(cell / 10 - spot / 10));
            }
            due.is("home from " + cell, x.home(cell), least);
        }
        SkyLanes y = new SkyLanes();
        y.spot(99);
        due.is("the longest way", y.home(0), 18);
        y.spot(0);
        due.is("the spot is near now", y.home(0), 0);
        due.is("both are as far", y.home(90), 9);
    }

    /** "NONE without spots" */
    private static void noWayHome() {
        SkyLanes x = new SkyLanes();
        due.is("from 0", x.home(0), SkyLanes.NONE);
        due.is("from 99", x.home(99), SkyLanes.NONE);
        x.spot(0);
        due.is("from 99, with one", x.home(99), 18);
    }

    private static int lostTo(int start, String moves, int flown, int... others) {
        SkyLanes x = new SkyLanes();
        for (int cell : others) {
            x.spot(cell);
        }
        x.machine(0, start, 100);
        due.is("to be lost", Draft.file(x, moves, 0, 1, 0), 0);
        x.tick(1 + flown);
        return x.lose(0);
    }

    /** "of several that with the lowest cell": whichever became a spot first, and however they lie. */
    private static void ofSeveralTheLowestCell() {
        due.is("52 and 58, from 55", lostTo(52, "U1 E6 D1", 4, 52, 58), 52);
        due.is("58 and 52, from 55", lostTo(58, "U1 W6 D1", 4, 58, 52), 52);
        due.is("59 is nearer from 56", lostTo(52, "U1 E7 D1", 5, 52, 59), 59);
        due.is("25 and 85, from 55", lostTo(25, "U1 S6 D1", 4, 85, 25), 25);
        due.is("54, 45, 56 and 65, from 55", lostTo(54, "U1 E2 D1", 2, 65, 56, 54, 45), 45);
        due.is("64 and 46, from 55", lostTo(64, "U1 E2 N2 D1", 2, 64, 46), 64);
        due.is("64 and 46, from 55, at one distance", lostTo(64, "U1 E1 N2 E1 D1", 3, 64, 46), 46);
    }

    /** "Each of the layers 1 to 4 has a wind that is foretold, 0 to 3", "0 at first", "Returns what it was." */
    private static void windsOfLayers() {
        SkyLanes x = new SkyLanes();
        for (int layer = 1; layer <= 3; layer++) {
            int before = 0;
            for (int wind : new int[] {3, 0, 1, 2}) {
                due.is("wind " + wind + " of " + layer, x.wind(layer, wind), before);
                before = wind;
            }
        }
        for (int no : new int[] {-1, 4, Integer.MIN_VALUE, Integer.MAX_VALUE}) {
            due.badArgument("the wind " + no, x, () -> x.wind(1, no));
            due.badArgument("the layer " + no, x, () -> x.wind(no, 1));
        }
        due.badArgument("the ground", x, () -> x.wind(0, 1));
        for (int layer = 1; layer <= 3; layer++) {
            due.is("it stays at " + layer, x.wind(layer, 0), 2);
        }
    }

    /** "and a gust, 0 to 5, 0 at first", "Returns what it was." */
    private static void gustsOfLayers() {
        SkyLanes x = new SkyLanes();
        for (int layer = 1; layer <= 3; layer++) {
            int before = 0;
            for (int gust : new int[] {5, 0, 1, 4}) {
                due.is("gust " + gust + " of " + layer, x.gust(layer, gust), before);
                before = gust;
            }
            due.is("the wind of " + layer, x.wind(layer, 1), 0);
        }
        for (int no : new int[] {-1, 6, Integer.MIN_VALUE, Integer.MAX_VALUE}) {
            due.badArgument("the gust " + no, x, () -> x.gust(1, no));
            due.badArgument("the layer " + no, x, () -> x.gust(no, 1));
        }
        due.badArgument("the ground", x, () -> x.gust(0, 1));
        due.badArgument("the layer 4", x, () -> x.gust(4, 1));
        for (int layer = 1; layer <= 3; layer++) {
            due.is("it stays at " + layer, x.gust(layer, 0), 4);
        }
    }

    /** "what is told of the layer 3 is that of 4, too": each gust, and that of no other layer. */
    private static void layer3IsThatOfLayer4() {
        for (int gust = 0; gust <= 5; gust++) {
            SkyLanes x = Draft.city(50);
            Draft.file(x, "U3 E2 W2 D3", 0, 1, 0);
            x.tick(6);
            x.lose(0);
            x.gust(1, 5 - gust);
            x.gust(2, 5 - gust);
            x.gust(3, gust);
            int before = x.ofMachine(0, 3);
            x.tick(1);
            due.is("UP to 4, the gust " + gust, before - x.ofMachine(0, 3), 2 + gust);
            x.tick(1);
            due.is("WEST in 4, the gust " + gust, before - x.ofMachine(0, 3), 3 + 2 * gust);
            x.gust(3, 0);
            x.tick(1);
            due.is("WEST in 4, no gust", before - x.ofMachine(0, 3), 4 + 2 * gust);
        }
    }

    /** "Foretells the wind of a layer, from now on": what is filed then; what was accepted stays so. */
    private static void windFromNowOn() {
        SkyLanes x = new SkyLanes();
        x.spot(0);
        x.machine(0, 0, 20);
        x.machine(1, 0, 20);
        due.is("accepted", Draft.file(x, "U1 .8 D1", 0, 5, 0), 0);
        x.wind(1, 1);
        due.is("it waits on", x.ofPath(0, 0), SkyLanes.WAITS);
        due.is("refused", Draft.file(x, "U1 .8 D1", 1, 50, 0), -SkyLanes.BATTERY);
        due.is("where", x.why(), 5);
        x.wind(1, 0);
        due.is("accepted again", x.file(1, 50, 0), 1);
        x.wind(1, 3);
        x.tick(15);
        due.is("it ended", x.ofPath(0, 0), SkyLanes.ENDED);
        due.is("the wind took nothing", x.ofMachine(0, 3), 9);
    }

    /** "Tells the gust of a layer, from now on": what was taken stays taken. */
    private static void gustFromNowOn() {
        SkyLanes x = Draft.city(0);
        Draft.file(x, "U1 .8 D1", 0, 1, 0);
        int[] gusts = {5, 0, 3, 1, 4};
        x.tick(2);
        int left = 98;
        for (int gust : gusts) {
            x.gust(1, gust);
            due.is("nothing yet", x.ofMachine(0, 3), left);
            x.tick(1);
            left -= 1 + gust;
            due.is("at the gust " + gust, x.ofMachine(0, 3), left);
        }
    }
}
