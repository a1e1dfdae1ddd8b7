/**
 * "Exceptions" and "Questions change nothing": each call is made on one of two cities that are alike, and then both
 * are asked and used alike; they must answer the same.
 */
public final class RefusedCallTest {
    private static final Due due = new Due();

    private interface Call {
        void on(SkyLanes x);
    }

    private interface City {
        SkyLanes make();
    }

    private static final class Ask {
        private final StringBuilder answers = new StringBuilder();

        void row(String name, Call c) {
            answers.append('\n').append(name).append(": ");
            try {
                c.on(null);
            } catch (RuntimeException e) {
                answers.append(e.getClass().getSimpleName());
            }
        }
    }

    public static void main(String[] args) {
        refusedOutside();
        refusedArguments();
        refusedStates();
        refusedAsThereIsNoMore();
        severalApply();
        severalApplyAsThereIsNoMore();
        refusedAheadOfPaths();
        questionsChangeNothing();
        due.end();
    }

    // ---- the cities

    /** Towers, spots, winds, two rooms, two machines and a draft, but no path. */
    private static SkyLanes early() {
        SkyLanes x = new SkyLanes();
        for (int cell : new int[] {0, 9, 90, 99, 50}) {
            x.spot(cell);
        }
        x.tower(45, 2);
        x.tower(20, 1);
        x.wind(1, 1);
        x.wind(3, 2);
        x.gust(2, 1);
        x.close(30, 39, 2, 0, 500);
        x.close(60, 69, 1, 0, 500);
        x.open(1);
        x.machine(0, 0, 100);
        x.machine(0, 9, 100);
        Draft.put(x, "U1 .1 D1");
        return x;
    }

    /** At 6: the machine 0 is PARKED, the path of 1 waits, 2 flies, 3 is LOST, 4 DOWN, 5 flies on the ground. */
    private static SkyLanes rich() {
        SkyLanes x = early();
        x.machine(1, 90, 150);
        x.machine(1, 99, 100);
        x.machine(2, 50, 24);
        x.machine(3, 0, 100);
        Draft.file(x, "U1 W9 D1", 1, 30, 2);
        Draft.file(x, "U1 E9 .9 W9 D1", 2, 1, 1);
        Draft.file(x, "U1 W3 E3 D1", 3, 1, 1);
        Draft.file(x, "U1 .4 D1", 4, 1, 1);
        Draft.file(x, ".10 U2 .1 D2", 5, 1, 1);
        x.gust(1, 5);
        x.tick(5);
        x.lose(3);
        x.tick(1);
        x.gust(1, 3);
        Draft.file(x, "U1 .1 E1", 0, 9, 1);
        return x;
    }

    /** 8 spots, 10 machines, 10 rooms, 40 paths, 40 moves. */
    private static SkyLanes full() {
        SkyLanes x = new SkyLanes();
        for (int i = 0; i < 8; i++) {
            x.spot(11 * i);
        }
        for (int i = 0; i < 10; i++) {
            x.machine(i % 4, 11 * (i % 8), 100);
            x.close(i, i, 1, 1000, 2000);
        }
        for (int i = 0; i < 40; i++) {
            x.move(5, 1);
            x.move(6, 1);
            x.file(i % 10, 20, 1);
            if (i < 39) {
                x.withdraw(i);
            }
        }
        Draft.put(x, "U3 .10 .10 .10 .4 D3");
        return x;
    }

    // ---- what is asked and done then

    private static String after(SkyLanes x) {
        Ask ask = new Ask();
        ask.answers.append(Snapshot.of(x));
        changes(x, ask);
        ask.answers.append(Snapshot.of(x));
        return ask.answers.toString();
    }

    private static void changes(SkyLanes x, Ask ask) {
        StringBuilder a = ask.answers;
        ask.row("clear", n -> a.append(x.clear()));
        for (int l = 1; l <= 3; l++) {
            int layer = l;
            ask.row("wind " + l, n -> a.append(x.wind(layer, 0)));
            ask.row("gust " + l, n -> a.append(x.gust(layer, 0)));
        }
        ask.row("tower 45", n -> a.append(x.tower(45, 0)));
        ask.row("tower 3", n -> a.append(x.tower(3, 0)));
        ask.row("spot 77", n -> a.append(x.spot(77)));
        ask.row("spot 20", n -> a.append(x.spot(20)));
        ask.row("machine", n -> a.append(x.machine(1, 0, 50)));
        ask.row("close", n -> a.append(x.close(0, 0, 1, 900, 900)));
        ask.row("open 1", n -> x.open(1));
        ask.row("file through room 0", n -> a.append(Draft.file(x, "U2 S9 D2", 0, x.time() + 1, 0)));
        ask.row("open 0", n -> x.open(0));
        ask.row("file", n -> a.append(Draft.file(x, "U2 S9 D2", 0, x.time() + 1, 0)));
        ask.row("why", n -> a.append(x.why()));
        ask.row("hold 2", n -> a.append(x.hold(2, 3)));
        ask.row("lose 2", n -> a.append(x.lose(2)));
        ask.row("withdraw 0", n -> x.withdraw(0));
        ask.row("tick", n -> a.append(x.tick(4)));
    }

    private static String afterFull(SkyLanes x) {
        Ask ask = new Ask();
        ask.answers.append(Snapshot.brief(x));
        changes(x, ask);
        ask.answers.append(Snapshot.brief(x));
        ask.row("path 39", n -> ask.answers.append(x.ofPath(39, 0)));
        return ask.answers.toString();
    }

    private static void refused(String name, City city, Class<? extends RuntimeException> want, Call c) {
        SkyLanes x = city.make();
        Class<?> got = null;
        try {
            c.on(x);
        } catch (RuntimeException e) {
            got = e.getClass();
        }
        due.same(name + " throws", "" + got, "" + want);
        SkyLanes twin = city.make();
        boolean all = twin.count(0) < 40;
        due.same("after " + name, all ? after(x) : afterFull(x), all ? after(twin) : afterFull(twin));
    }

    private static void outside(String name, Call c) {
        refused(name, RefusedCallTest::rich, IndexOutOfBoundsException.class, c);
    }

    private static void argument(String name, Call c) {
        refused(name, RefusedCallTest::rich, IllegalArgumentException.class, c);
    }

    private static void state(String name, Call c) {
        refused(name, RefusedCallTest::rich, IllegalStateException.class, c);
    }

    // ---- the refused calls

    /** "there is no such cell, machine, path or room" */
    private static void refusedOutside() {
        for (int no : new int[] {-1, 100, Integer.MIN_VALUE, Integer.MAX_VALUE}) {
            outside("tower(" + no + ", 1)", x -> x.tower(no, 1));
            outside("spot(" + no + ")", x -> x.spot(no));
            outside("close(" + no + ", 0, ..)", x -> x.close(no, 0, 1, 0, 1000));
            outside("close(0, " + no + ", ..)", x -> x.close(0, no, 1, 0, 1000));
            outside("machine(0, " + no + ", 50)", x -> x.machine(0, no, 50));
            outside("home(" + no + ")", x -> x.home(no));
        }
        for (int no : new int[] {-1, 6, 10, Integer.MIN_VALUE, Integer.MAX_VALUE}) {
            outside("takes(" + no + ")", x -> x.takes(no));
            outside("file(" + no + ", 9, 0)", x -> x.file(no, 9, 0));
            outside("lose(" + no + ")", x -> x.lose(no));
            outside("hold(" + no + ", 1)", x -> x.hold(no, 1));
            outside("ofMachine(" + no + ", 0)", x -> x.ofMachine(no, 0));
            outside("withdraw(" + no + ")", x -> x.withdraw(no));
            outside("placeAt(" + no + ", 5)", x -> x.placeAt(no, 5));
            outside("meets(" + no + ", 0)", x -> x.meets(no, 0));
            outside("meets(0, " + no + ")", x -> x.meets(0, no));
            outside("meetsAnew(" + no + ", 0)", x -> x.meetsAnew(no, 0));
            outside("meetsAnew(0, " + no + ")", x -> x.meetsAnew(0, no));
            outside("ofPath(" + no + ", 0)", x -> x.ofPath(no, 0));
            outside("open(" + no + ")", x -> x.open(no));
        }
        outside("open(2)", x -> x.open(2));
        outside("ofPath(5, 0)", x -> x.ofPath(5, 0));
    }

    /** "another argument is out of its range" */
    private static void refusedArguments() {
        for (int no : new int[] {-1, 4, Integer.MIN_VALUE, Integer.MAX_VALUE}) {
            argument("tower(3, " + no + ")", x -> x.tower(3, no));
            argument("wind(1, " + no + ")", x -> x.wind(1, no));
            argument("wind(" + no + ", 1)", x -> x.wind(no, 1));
            argument("gust(" + no + ", 1)", x -> x.gust(no, 1));
            argument("close(0, 99, " + no + ", 0, 9)", x -> x.close(0, 99, no, 0, 9));
            argument("machine(" + no + ", 0, 50)", x -> x.machine(no, 0, 50));
            argument("file(0, 9, " + no + ")", x -> x.file(0, 9, no));
        }
        for (int no : new int[] {-1, 0, 11, 51, Integer.MIN_VALUE, Integer.MAX_VALUE}) {
            argument("move(0, " + no + ")", x -> x.move(0, no));
            argument("hold(2, " + no + ")", x -> x.hold(2, no));
            if (no != 11) {
                argument("tick(" + no + ")", x -> x.tick(no));
            }
        }
        for (int no : new int[] {-1, 6, 7, Integer.MIN_VALUE, Integer.MAX_VALUE}) {
            argument("gust(1, " + no + ")", x -> x.gust(1, no));
            argument("ofMachine(2, " + no + ")", x -> x.ofMachine(2, no));
            argument("ofPath(2, " + no + ")", x -> x.ofPath(2, no));
            argument("count(" + no + ")", x -> x.count(no));
            if (no != 6) {
                argument("move(" + no + ", 1)", x -> x.move(no, 1));
            }
        }
        argument("wind(0, 1)", x -> x.wind(0, 1));
        argument("gust(0, 1)", x -> x.gust(0, 1));
        argument("ofPath(2, 5)", x -> x.ofPath(2, 5));
        argument("count(5)", x -> x.count(5));
        argument("close(0, 99, 0, 0, 9)", x -> x.close(0, 99, 0, 0, 9));
        argument("close(0, 99, 3, -1, 9)", x -> x.close(0, 99, 3, -1, 9));
        argument("close(0, 99, 3, 31, 30)", x -> x.close(0, 99, 3, 31, 30));
        argument("close(0, 99, 3, 30, 100001)", x -> x.close(0, 99, 3, 30, 100001));
        argument("close(0, 99, 3, 100001, 100001)", x -> x.close(0, 99, 3, 100001, 100001));
        argument("machine(0, 0, 19)", x -> x.machine(0, 0, 19));
        argument("machine(0, 0, 201)", x -> x.machine(0, 0, 201));
        for (int time : new int[] {6, 5, 0, 207, Integer.MIN_VALUE, Integer.MAX_VALUE}) {
            argument("file(0, " + time + ", 0)", x -> x.file(0, time, 0));
        }
    }

    /** "IllegalStateException: as the method tells." */
    private static void refusedStates() {
        state("tower(0, 1) on a spot", x -> x.tower(0, 1));
        state("tower(3, 1) after a path", x -> x.tower(3, 1));
        state("spot(9) again", x -> x.spot(9));
        state("spot(45) on a tower", x -> x.spot(45));
        state("open(1) again", x -> x.open(1));
        state("machine(0, 1, 50) at no spot", x -> x.machine(0, 1, 50));
        state("withdraw(1) of one that flies", x -> x.withdraw(1));
        state("withdraw(2) of one that is broken", x -> x.withdraw(2));
        for (int m : new int[] {0, 1, 3, 4, 5}) {
            state("lose(" + m + ")", x -> x.lose(m));
            state("hold(" + m + ", 1)", x -> x.hold(m, 1));
        }
    }

    private static void refused(String name, Class<? extends RuntimeException> want, Call c) {
        refused(name, RefusedCallTest::full, want, c);
    }

    /** "or there are 8", "there are 10", "it would have more than 40", "there are 40 paths" */
    private static void refusedAsThereIsNoMore() {
        refused("the ninth spot", IllegalStateException.class, x -> x.spot(90));
        refused("the eleventh room", IllegalStateException.class, x -> x.close(0, 99, 3, 0, 1000));
        refused("the eleventh machine", IllegalStateException.class, x -> x.machine(0, 0, 50));
        refused("the 41st move", IllegalStateException.class, x -> x.move(0, 1));
        refused("ten moves more", IllegalStateException.class, x -> x.move(0, 10));
        refused("the 41st path", IllegalStateException.class, x -> x.file(0, 9, 0));
        refused("the 41st path of one that is busy", IllegalStateException.class, x -> x.file(9, 9, 0));
    }

    /** "If several apply, the one that is named first in the throws clause is thrown." */
    private static void severalApply() {
        outside("tower(100, 4), after a path", x -> x.tower(100, 4));
        outside("tower(-1, 1), after a path", x -> x.tower(-1, 1));
        argument("tower(0, 4), on a spot", x -> x.tower(0, 4));
        argument("tower(3, -1), after a path", x -> x.tower(3, -1));
        outside("close(0, 100, 0, 9, 8)", x -> x.close(0, 100, 0, 9, 8));
        outside("close(-1, 0, 4, -1, 8)", x -> x.close(-1, 0, 4, -1, 8));
        outside("machine(4, 100, 19)", x -> x.machine(4, 100, 19));
        argument("machine(4, 1, 50), at no spot", x -> x.machine(4, 1, 50));
        argument("machine(0, 1, 201), at no spot", x -> x.machine(0, 1, 201));
        outside("file(6, 6, 4)", x -> x.file(6, 6, 4));
        outside("file(-1, 9, 4)", x -> x.file(-1, 9, 4));
        argument("file(2, 6, 0) of one that is busy", x -> x.file(2, 6, 0));
        outside("hold(6, 0)", x -> x.hold(6, 0));
        argument("hold(0, 0) of one that is parked", x -> x.hold(0, 0));
        argument("hold(3, 11) of one that is lost", x -> x.hold(3, 11));
        outside("ofMachine(6, 6)", x -> x.ofMachine(6, 6));
        outside("ofPath(5, 5)", x -> x.ofPath(5, 5));
        outside("meets(9, 9)", x -> x.meets(9, 9));
        outside("meetsAnew(-1, -1)", x -> x.meetsAnew(-1, -1));
    }

    private static void severalApplyAsThereIsNoMore() {
        refused("spot(100), the ninth", IndexOutOfBoundsException.class, x -> x.spot(100));
        refused("close(0, 100, ..), the eleventh", IndexOutOfBoundsException.class, x -> x.close(0, 100, 3, 0, 9));
        refused("close(0, 99, 4, ..), the eleventh", IllegalArgumentException.class, x -> x.close(0, 99, 4, 0, 9));
        refused("close(0, 99, 3, 9, 8), the eleventh", IllegalArgumentException.class, x -> x.close(0, 99, 3, 9, 8));
        refused("machine(0, 100, 50), the eleventh", IndexOutOfBoundsException.class, x -> x.machine(0, 100, 50));
        refused("machine(4, 0, 50), the eleventh", IllegalArgumentException.class, x -> x.machine(4, 0, 50));
        refused("machine(0, 0, 19), the eleventh", IllegalArgumentException.class, x -> x.machine(0, 0, 19));
        refused("move(7, 1), the 41st", IllegalArgumentException.class, x -> x.move(7, 1));
        refused("move(0, 11), the 41st", IllegalArgumentException.class, x -> x.move(0, 11));
        refused("file(10, 9, 0), the 41st", IndexOutOfBoundsException.class, x -> x.file(10, 9, 0));
        refused("file(0, 0, 0), the 41st", IllegalArgumentException.class, x -> x.file(0, 0, 0));
        refused("file(0, 9, 4), the 41st", IllegalArgumentException.class, x -> x.file(0, 9, 4));
        SkyLanes x = new SkyLanes();
        for (int i = 0; i < 399; i++) {
            x.tick(50);
        }
        x.tick(50);
        due.badArgument("tick(51) at 20000", x, () -> x.tick(51));
        due.badArgument("tick(0) at 20000", x, () -> x.tick(0));
        due.badState("tick(1) at 20000", x, () -> x.tick(1));
    }

    /** As no path was accepted, towers can still be built, and have the heights that they had. */
    private static void refusedAheadOfPaths() {
        City city = RefusedCallTest::early;
        refused("tower(45, 4)", city, IllegalArgumentException.class, x -> x.tower(45, 4));
        refused("tower(100, 1)", city, IndexOutOfBoundsException.class, x -> x.tower(100, 1));
        refused("tower(0, 1)", city, IllegalStateException.class, x -> x.tower(0, 1));
        refused("spot(45)", city, IllegalStateException.class, x -> x.spot(45));
        refused("spot(20)", city, IllegalStateException.class, x -> x.spot(20));
        refused("machine(0, 45, 50)", city, IllegalStateException.class, x -> x.machine(0, 45, 50));
        refused("file(0, 0, 0)", city, IllegalArgumentException.class, x -> x.file(0, 0, 0));
        refused("hold(0, 1)", city, IllegalStateException.class, x -> x.hold(0, 1));
        refused("lose(0)", city, IllegalStateException.class, x -> x.lose(0));
        refused("withdraw(0)", city, IndexOutOfBoundsException.class, x -> x.withdraw(0));
    }

    /** "Questions change nothing." */
    private static void questionsChangeNothing() {
        SkyLanes early = early();
        due.same("asked ahead of paths", Snapshot.of(early), Snapshot.of(early));
        due.same("after questions ahead of paths", after(early), after(early()));
        SkyLanes x = rich();
        due.is("the machine 3 comes down where 2 will be", x.alerts(), 4);
        for (int m = 0; m < 6; m++) {
            x.takes(m);
            x.home(10 * m);
        }
        for (int p = 0; p < 5; p++) {
            x.placeAt(p, 9);
            x.meets(p, 0);
            x.meetsAnew(p, 0);
            x.ofPath(p, 3);
        }
        due.same("after questions", after(x), after(rich()));
    }
}
