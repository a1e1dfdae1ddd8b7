import java.util.TreeMap;

/** Long runs of calls, drawn by a fixed sequence of numbers, whose answers are compared with those of PlainLanes. */
public final class ModelTest {
    private static final int RUNS = 5000;
    /** An object is used for at most 512 calls; the dearest of plainCall makes some twenty of them. */
    private static final int CALLS = 480;
    private static final int[] EXTREMES = {Integer.MIN_VALUE, -1000, -2, -1, 0, 1, 2, 3, 4, 5, 6, 7, 9, 10, 11, 39, 40, 41,
        99, 100, 101, 200, 201, 20000, 100000, 100001, Integer.MAX_VALUE};

    private final Due due = new Due();
    private final TreeMap<String, Integer> seen = new TreeMap<>();
    private long seed = 88172645463325252L;
    private SkyLanes x;
    private PlainLanes y;
    private StringBuilder run;
    private int[] cells;
    private int calls;
    private int machines;

    public static void main(String[] args) {
        ModelTest t = new ModelTest();
        for (int i = 0; i < RUNS; i++) {
            t.oneRun(i);
        }
        t.everythingWasSeen();
        t.due.end();
    }

    private int draw(int below) {
        seed = seed * 6364136223846793005L + 1442695040888963407L;
        return (int) ((seed >>> 33) % below);
    }

    private interface Two {
        long of(boolean program);
    }

    /** One call of both; its answers must be the same; returns the answer, or a large number for an exception. */
    private long both(String call, Two two) {
        calls++;
        String got = answer(two, true);
        String want = answer(two, false);
        run.append(call).append(" = ").append(want).append('\n');
        String name = call.substring(0, call.indexOf('('));
        seen.merge(name + (want.startsWith("throws") ? " " + want : " answers"), 1, Integer::sum);
        if (!got.equals(want)) {
            due.same("run:\n" + run + call, got, want);
        }
        return want.startsWith("throws") ? Long.MAX_VALUE : Long.parseLong(want);
    }

    private static String answer(Two two, boolean program) {
        try {
            return "" + two.of(program);
        } catch (RuntimeException e) {
            return "throws " + e.getClass().getSimpleName();
        }
    }

    private void oneRun(int number) {
        x = new SkyLanes();
        y = new PlainLanes();
        calls = 0;
        machines = 0;
        run = new StringBuilder("run " + number + "\n");
        cells = new int[2 + draw(5)];
        int corner = draw(10) < 7 ? 11 * draw(6) : -1;
        for (int i = 0; i < cells.length; i++) {
            cells[i] = corner < 0 ? draw(100) : corner + draw(4) + 10 * draw(4);
        }
        for (int cell : cells) {
            both("spot(" + cell + ")", p -> p ? x.spot(cell) : y.spot(cell));
        }
        for (int i = draw(8); i > 0; i--) {
            int cell = draw(100);
            int height = draw(4);
            both("tower(" + cell + ", " + height + ")", p -> p ? x.tower(cell, height) : y.tower(cell, height));
        }
        for (int i = 2 + draw(8); i > 0; i--) {
            bring(draw(4), cells[draw(cells.length)], draw(3) == 0 ? 20 + draw(30) : 20 + draw(181));
        }
        if (number % 20 == 0) {
            fillUp();
        }
        while (calls < CALLS) {
            if (draw(25) == 0) {
                oddCall();
            } else {
                plainCall();
            }
        }
        for (int what = 2; what <= 4; what++) {
            int counted = what;
            both("count(" + what + ")", p -> p ? x.count(counted) : y.count(counted));
        }
        both("alerts()", p -> p ? x.alerts() : y.alerts());
        due.is("calls of the object", calls <= 512, true);
        seen.merge("machines down", y.count(3), Integer::sum);
        seen.merge("machines down together", y.count(4), Integer::sum);
    }

    /** Nearly as many machines, rooms and paths as there may be. */
    private void fillUp() {
        for (int i = 0; i < 8; i++) {
            bring(draw(4), cells[0], 200);
        }
        for (int i = 0; i < 8; i++) {
            closeNear();
        }
        for (int i = 0; i < 37; i++) {
            int machine = i % 2;
            int later = 1 + draw(200);
            move(5, 1);
            move(6, 1);
            long got = both("file(" + machine + ", " + later + ", 0)", p -> p ? x.file(machine, later, 0) : y.file(machine, later, 0));
            if (got >= 0 && got < 40) {
                withdraw((int) got);
            } else {
                both("clear()", p -> p ? x.clear() : y.clear());
            }
        }
    }

    private void bring(int firm, int cell, int full) {
        long got = both("machine(" + firm + ", " + cell + ", " + full + ")",
            p -> p ? x.machine(firm, cell, full) : y.machine(firm, cell, full));
        if (got != Long.MAX_VALUE) {
            machines++;
        }
    }

    private void plainCall() {
        int machine = draw(machines + 1);
        int kind = draw(40);
        if (kind < 10) {
            fileTrip(machine);
        } else if (kind < 15) {
            tick(1 + draw(4));
        } else if (kind == 15) {
            tick(1 + draw(50));
        } else if (kind < 18) {
            hold(draw(2) == 0 ? machine : flying(), 1 + draw(5));
        } else if (kind == 18) {
            int one = draw(2) == 0 ? machine : flying();
            both("lose(" + one + ")", p -> p ? x.lose(one) : y.lose(one));
        } else if (kind == 19) {
            closeNear();
        } else if (kind == 20) {
            int room = draw(10);
            both("open(" + room + ")", p -> {
                if (p) x.open(room); else y.open(room);
                return 0;
            });
        } else if (kind == 21) {
            withdraw(draw(1 + y.count(0)));
        } else if (kind == 22) {
            int layer = 1 + draw(3);
            int wind = draw(4) == 0 ? draw(4) : 0;
            both("wind(" + layer + ", " + wind + ")", p -> p ? x.wind(layer, wind) : y.wind(layer, wind));
        } else if (kind == 23) {
            int layer = 1 + draw(3);
            int gust = draw(3) == 0 ? draw(6) : 0;
            both("gust(" + layer + ", " + gust + ")", p -> p ? x.gust(layer, gust) : y.gust(layer, gust));
        } else {
            ask(machine);
        }
    }

    /** A machine that flies, the first one where none does. */
    private int flying() {
        int first = draw(10);
        for (int i = 0; i < machines; i++) {
            int m = (first + i) % machines;
            if (y.ofMachine(m, 0) == SkyLanes.FLIES) {
                return m;
            }
        }
        return 0;
    }

    private void tick(int steps) {
        both("tick(" + steps + ")", p -> p ? x.tick(steps) : y.tick(steps));
    }

    private void hold(int machine, int steps) {
        both("hold(" + machine + ", " + steps + ")", p -> p ? x.hold(machine, steps) : y.hold(machine, steps));
    }

    private void withdraw(int path) {
        both("withdraw(" + path + ")", p -> {
            if (p) x.withdraw(path); else y.withdraw(path);
            return 0;
        });
    }

    private void move(int move, int times) {
        both("move(" + move + ", " + times + ")", p -> p ? x.move(move, times) : y.move(move, times));
    }

    private void closeNear() {
        int cell = Math.min(99, cells[draw(cells.length)] + draw(12));
        int other = Math.max(0, cell - draw(25));
        int layer = 1 + draw(3);
        int from = y.time() + draw(20);
        int to = from + draw(6);
        both("close(" + cell + ", " + other + ", " + layer + ", " + from + ", " + to + ")",
            p -> p ? x.close(cell, other, layer, from, to) : y.close(cell, other, layer, from, to));
    }

    /** A draft from where a machine is to a spot, mostly one that is no refusal's cause. */
    private void fileTrip(int machine) {
        both("clear()", p -> p ? x.clear() : y.clear());
        int up = 1 + draw(3);
        if (draw(8) == 0) move(0, 1 + draw(3));
        move(5, draw(20) == 0 ? 4 : up);
        if (draw(4) == 0) move(0, 1 + draw(6));
        int from = draw(9) == 0 ? 0 : whereIs(machine);
        int to = cells[draw(cells.length)];
        int dx = to % 10 - from % 10;
        int dy = to / 10 - from / 10;
        if (dx != 0) move(dx > 0 ? 1 : 2, Math.abs(dx));
        if (draw(6) == 0) move(0, 1 + draw(3));
        if (dy != 0) move(dy > 0 ? 3 : 4, Math.abs(dy));
        if (draw(12) == 0) move(draw(7), 1 + draw(3));
        if (draw(30) != 0) move(6, up);
        if (draw(10) == 0) move(draw(7), 1);
        both("takes(" + machine + ")", p -> p ? x.takes(machine) : y.takes(machine));
        int time = y.time() + 1 + (draw(6) == 0 ? draw(200) : draw(8));
        int urgency = draw(4);
        long got = both("file(" + machine + ", " + time + ", " + urgency + ")",
            p -> p ? x.file(machine, time, urgency) : y.file(machine, time, urgency));
        if (got != Long.MAX_VALUE) {
            seen.merge("file " + (got < 0 ? "" + got : "accepted"), 1, Integer::sum);
        }
        both("why()", p -> p ? x.why() : y.why());
    }

    private int whereIs(int machine) {
        return machine < machines ? y.ofMachine(machine, 1) : 0;
    }

    private void ask(int machine) {
        int path = draw(1 + y.count(0));
        int other = draw(1 + y.count(0));
        int time = y.time() - 5 + draw(20);
        int cell = draw(100);
        int what = draw(6);
        if (both("alerts()", p -> p ? x.alerts() : y.alerts()) != 0) {
            seen.merge("alerts that are some", 1, Integer::sum);
        }
        switch (draw(4)) {
            case 0:
                both("time()", p -> p ? x.time() : y.time());
                both("home(" + cell + ")", p -> p ? x.home(cell) : y.home(cell));
                break;
            case 1:
                both("meets(" + path + ", " + other + ")", p -> (p ? x.meets(path, other) : y.meets(path, other)) ? 1 : 0);
                both("meetsAnew(" + path + ", " + other + ")", p -> (p ? x.meetsAnew(path, other) : y.meetsAnew(path, other)) ? 1 : 0);
                break;
            case 2:
                both("placeAt(" + path + ", " + time + ")", p -> p ? x.placeAt(path, time) : y.placeAt(path, time));
                both("count(" + what + ")", p -> p ? x.count(what) : y.count(what));
                break;
            default:
                both("ofMachine(" + machine + ", " + what + ")", p -> p ? x.ofMachine(machine, what) : y.ofMachine(machine, what));
                both("ofPath(" + path + ", " + what + ")", p -> p ? x.ofPath(path, what) : y.ofPath(path, what));
                break;
        }
    }

    /** A call with numbers that may well be out of their ranges. */
    private void oddCall() {
        int a = odd();
        int b = odd();
        int c = odd();
        int d = odd();
        int e = odd();
        String two = "(" + a + ", " + b + ")";
        String three = "(" + a + ", " + b + ", " + c + ")";
        switch (draw(20)) {
            case 0: both("tower" + two, p -> p ? x.tower(a, b) : y.tower(a, b)); break;
            case 1: both("spot(" + a + ")", p -> p ? x.spot(a) : y.spot(a)); break;
            case 2: both("wind" + two, p -> p ? x.wind(a, b) : y.wind(a, b)); break;
            case 3: both("gust" + two, p -> p ? x.gust(a, b) : y.gust(a, b)); break;
            case 4:
                both("close(" + a + ", " + b + ", " + c + ", " + d + ", " + e + ")",
                    p -> p ? x.close(a, b, c, d, e) : y.close(a, b, c, d, e));
                break;
            case 5:
                both("open(" + a + ")", p -> {
                    if (p) x.open(a); else y.open(a);
                    return 0;
                });
                break;
            case 6: bring(a, b, c); break;
            case 7: move(a, b); break;
            case 8: both("takes(" + a + ")", p -> p ? x.takes(a) : y.takes(a)); break;
            case 9: both("file" + three, p -> p ? x.file(a, b, c) : y.file(a, b, c)); break;
            case 10: withdraw(a); break;
            case 11: tick(a); break;
            case 12: both("lose(" + a + ")", p -> p ? x.lose(a) : y.lose(a)); break;
            case 13: hold(a, b); break;
            case 14: both("home(" + a + ")", p -> p ? x.home(a) : y.home(a)); break;
            case 15: both("placeAt" + two, p -> p ? x.placeAt(a, b) : y.placeAt(a, b)); break;
            case 16: both("meets" + two, p -> (p ? x.meets(a, b) : y.meets(a, b)) ? 1 : 0); break;
            case 17: both("meetsAnew" + two, p -> (p ? x.meetsAnew(a, b) : y.meetsAnew(a, b)) ? 1 : 0); break;
            case 18: both("ofMachine" + two, p -> p ? x.ofMachine(a, b) : y.ofMachine(a, b)); break;
            default:
                both("ofPath" + two, p -> p ? x.ofPath(a, b) : y.ofPath(a, b));
                both("count(" + a + ")", p -> p ? x.count(a) : y.count(a));
                break;
        }
    }

    private int odd() {
        return draw(3) == 0 ? draw(8) : EXTREMES[draw(EXTREMES.length)];
    }

    /** The runs are worth their time only if they come to all that can be. */
    private void everythingWasSeen() {
        String[] wanted = {"file accepted", "file -1", "file -2", "file -3", "file -4", "file -5", "file -6",
            "file throws IllegalStateException", "hold answers", "hold throws IllegalStateException", "lose answers",
            "alerts that are some", "machines down",
            "machines down together", "open answers", "close throws IllegalStateException", "withdraw answers", "machine throws IllegalStateException"};
        for (String name : wanted) {
            due.is("times that were seen of " + name + " above 20", seen.getOrDefault(name, 0) > 20, true);
        }
        System.out.println(seen);
    }
}
