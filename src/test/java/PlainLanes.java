import java.util.ArrayList;
import java.util.HashSet;
import java.util.List;
import java.util.Set;
import java.util.TreeSet;

/**
 * The document a second time, told slowly and in another way, as what SkyLanes is compared with: paths are kept as
 * rows of moves and gone through from their first place whenever a place is asked for.
 */
final class PlainLanes {
    static final class Spot3 {
        final int x;
        final int y;
        final int layer;

        Spot3(int x, int y, int layer) {
            this.x = x;
            this.y = y;
            this.layer = layer;
        }

        boolean same(Spot3 o) {
            return x == o.x && y == o.y && layer == o.layer;
        }

        int cell() {
            return 10 * y + x;
        }
    }

    static final class Flight {
        int number;
        Craft craft;
        int begin;
        int urgency;
        String state = "waits";
        int startCell;
        List<Integer> moves = new ArrayList<>();

        int end() {
            return begin + moves.size();
        }

        /** Where it is at a time, or null. */
        Spot3 at(long time) {
            return time < begin || time > end() ? null : place((int) (time - begin));
        }

        Spot3 place(int k) {
            int x = startCell % 10;
            int y = startCell / 10;
            int layer = 0;
            for (int move : moves.subList(0, k)) {
                if (move == 1) x++;
                if (move == 2) x--;
                if (move == 3) y++;
                if (move == 4) y--;
                if (move == 5) layer++;
                if (move == 6) layer--;
            }
            return new Spot3(x, y, layer);
        }
    }

    static final class Craft {
        int number;
        int firm;
        int full;
        int battery;
        String state = "parked";
        Spot3 place;
        int goal;
    }

    static final class Zone {
        int cell;
        int other;
        int layer;
        int from;
        int to;
        boolean closed = true;

        boolean has(Spot3 s, int time) {
            if (!closed || s == null || s.layer < 1 || s.layer > layer || time < from || time > to) {
                return false;
            }
            int x1 = cell % 10;
            int x2 = other % 10;
            int y1 = cell / 10;
            int y2 = other / 10;
            boolean inX = x1 <= s.x && s.x <= x2 || x2 <= s.x && s.x <= x1;
            boolean inY = y1 <= s.y && s.y <= y2 || y2 <= s.y && s.y <= y1;
            return inX && inY;
        }
    }

    private final int[] heights = new int[100];
    private final TreeSet<Integer> spots = new TreeSet<>();
    private final int[] wind = new int[4];
    private final int[] gust = new int[4];
    private final List<Zone> zones = new ArrayList<>();
    private final List<Craft> crafts = new ArrayList<>();
    private final List<Flight> flights = new ArrayList<>();
    private final List<Integer> draft = new ArrayList<>();
    private int now = 0;
    private int refusals = 0;
    private int cause = -1;
    private int bumped = 0;

    private static void outside(boolean is) {
        if (is) throw new IndexOutOfBoundsException();
    }

    private static void argument(boolean is) {
        if (is) throw new IllegalArgumentException();
    }

    private static void state(boolean is) {
        if (is) throw new IllegalStateException();
    }

    private static boolean between(int v, int a, int b) {
        return a <= v && v <= b;
    }

    int tower(int cell, int height) {
        outside(!between(cell, 0, 99));
        argument(!between(height, 0, 3));
        state(spots.contains(cell) || !flights.isEmpty());
        int was = heights[cell];
        heights[cell] = height;
        return was;
    }

    int spot(int cell) {
        outside(!between(cell, 0, 99));
        state(spots.contains(cell) || heights[cell] != 0 || spots.size() == 8);
        spots.add(cell);
        return spots.size();
    }

    int wind(int layer, int w) {
        argument(!between(layer, 1, 3) || !between(w, 0, 3));
        int was = wind[layer];
        wind[layer] = w;
        return was;
    }

    int gust(int layer, int g) {
        argument(!between(layer, 1, 3) || !between(g, 0, 5));
        int was = gust[layer];
        gust[layer] = g;
        return was;
    }

    int close(int cell, int other, int layer, int from, int to) {
        outside(!between(cell, 0, 99) || !between(other, 0, 99));
        argument(!between(layer, 1, 3) || !between(from, 0, 100000) || to < from || to > 100000);
        state(zones.size() == 10);
        Zone z = new Zone();
        z.cell = cell;
        z.other = other;
        z.layer = layer;
        z.from = from;
        z.to = to;
        zones.add(z);
        for (Flight f : flights) {
            if (f.state.equals("waits") && zoneOf(f, 0) >= 0 && inZone(f, z, 0)) {
                f.state = "withdrawn";
            }
        }
        return zones.size() - 1;
    }

    void open(int room) {
        outside(!between(room, 0, zones.size() - 1));
        state(!zones.get(room).closed);
        zones.get(room).closed = false;
    }

    int machine(int firm, int cell, int full) {
        outside(!between(cell, 0, 99));
        argument(!between(firm, 0, 3) || !between(full, 20, 200));
        state(!spots.contains(cell) || crafts.size() == 10);
        Craft c = new Craft();
        c.number = crafts.size();
        c.firm = firm;
        c.full = full;
        c.battery = full;
        c.place = new Spot3(cell % 10, cell / 10, 0);
        crafts.add(c);
        return c.number;
    }

    int move(int move, int times) {
        argument(!between(move, 0, 6) || !between(times, 1, 10));
        state(draft.size() + times > 40);
        for (int i = 0; i < times; i++) {
            draft.add(move);
        }
        return draft.size();
    }

    int clear() {
        int had = draft.size();
        draft.clear();
        return had;
    }

    int takes(int machine) {
        outside(!between(machine, 0, crafts.size() - 1));
        Craft c = crafts.get(machine);
        Flight f = sketch(c, 0, 0);
        if (!c.state.equals("parked") || badPlace(f) >= 0) {
            return -1;
        }
        int sum = 0;
        for (int k = 0; k < f.moves.size(); k++) {
            sum += price(f.moves.get(k), f.place(k + 1).layer, wind);
        }
        return sum;
    }

    int file(int machine, int time, int urgency) {
        outside(!between(machine, 0, crafts.size() - 1));
        argument(time <= now || (long) time - now > 200 || !between(urgency, 0, 3));
        state(flights.size() == 40);
        Craft c = crafts.get(machine);
        Flight f = sketch(c, time, urgency);
        Flight own = active(c);
        if (!c.state.equals("parked") || own != null) {
            return refused(1, own != null && own.state.equals("waits") ? own.number : -1);
        }
        if (flights.stream().filter(o -> o.state.equals("waits") && o.craft.firm == c.firm).count() >= 3) {
            return refused(2, -1);
        }
        if (badPlace(f) >= 0) {
            return refused(3, badPlace(f));
        }
        int battery = c.battery;
        for (int t = now + 1; t <= time; t++) {
            battery = battery + 5 > c.full ? c.full : battery + 5;
        }
        if (lowPlace(f, 0, battery) >= 0) {
            return refused(4, lowPlace(f, 0, battery));
        }
        if (zoneOf(f, 0) >= 0) {
            return refused(5, zoneOf(f, 0));
        }
        for (Flight o : flights) {
            boolean stays = o.state.equals("flies") || o.state.equals("waits") && o.urgency <= urgency;
            if (stays && meeting(f, o)) {
                return refused(6, o.number);
            }
        }
        for (Flight o : flights) {
            if (o.state.equals("waits") && meeting(f, o)) {
                o.state = "withdrawn";
            }
        }
        flights.add(f);
        draft.clear();
        return f.number;
    }

    private int refused(int reason, int of) {
        refusals++;
        cause = of;
        return -reason;
    }

    private Flight sketch(Craft c, int time, int urgency) {
        Flight f = new Flight();
        f.number = flights.size();
        f.craft = c;
        f.begin = time;
        f.urgency = urgency;
        f.startCell = c.place.cell();
        f.moves.addAll(draft);
        return f;
    }

    private int badPlace(Flight f) {
        int n = f.moves.size();
        for (int k = 0; k <= n; k++) {
            Spot3 s = f.place(k);
            boolean inCity = between(s.x, 0, 9) && between(s.y, 0, 9) && between(s.layer, 0, 3);
            if (!inCity || s.layer > 0 && s.layer <= heights[s.cell()] || s.layer == 0 && !spots.contains(s.cell())) {
                return k;
            }
        }
        return n == 0 || f.place(n).layer > 0 ? n : -1;
    }

    private static int price(int move, int layer, int[] air) {
        int extra = layer == 0 ? 0 : air[layer > 3 ? 3 : layer];
        return move == 0 ? (layer == 0 ? 0 : 1 + extra) : move == 5 ? 2 + extra : 1 + extra;
    }

    private int lowPlace(Flight f, int from, int battery) {
        int left = battery;
        for (int k = from; k < f.moves.size(); k++) {
            Spot3 s = f.place(k + 1);
            left -= price(f.moves.get(k), s.layer, wind);
            if (left < (s.layer == 0 ? 0 : home(s.cell()) + 10)) {
                return k + 1;
            }
        }
        return -1;
    }

    private static boolean inZone(Flight f, Zone z, int from) {
        for (int k = from; k <= f.moves.size(); k++) {
            if (z.has(f.place(k), f.begin + k)) {
                return true;
            }
        }
        return false;
    }

    private int zoneOf(Flight f, int from) {
        for (int i = 0; i < zones.size(); i++) {
            if (inZone(f, zones.get(i), from)) {
                return i;
            }
        }
        return -1;
    }

    /** Whether they meet, found by a set of all that one of them keeps free. */
    private static boolean meeting(Flight f, Flight o) {
        Set<String> kept = new HashSet<>();
        for (int k = 0; k <= f.moves.size(); k++) {
            Spot3 s = f.place(k);
            if (s.layer > 0) {
                for (int d = -1; d <= 1; d++) {
                    kept.add(s.x + " " + s.y + " " + s.layer + " " + (f.begin + k + d));
                }
            }
        }
        for (int k = 0; k <= o.moves.size(); k++) {
            Spot3 s = o.place(k);
            if (kept.contains(s.x + " " + s.y + " " + s.layer + " " + (o.begin + k))) {
                return true;
            }
        }
        return false;
    }

    private Flight active(Craft c) {
        for (Flight f : flights) {
            if (f.craft == c && (f.state.equals("waits") || f.state.equals("flies"))) {
                return f;
            }
        }
        return null;
    }

    int why() {
        return cause;
    }

    void withdraw(int path) {
        outside(!between(path, 0, flights.size() - 1));
        state(!flights.get(path).state.equals("waits"));
        flights.get(path).state = "withdrawn";
    }

    int tick(int steps) {
        argument(!between(steps, 1, 50));
        state(now + steps > 20000);
        for (int i = 0; i < steps; i++) {
            pass();
        }
        return now;
    }

    private void pass() {
        now++;
        for (Craft c : crafts) {
            if (c.state.equals("parked")) {
                c.battery = Math.min(c.full, c.battery + 5);
            }
        }
        for (Flight f : flights) {
            if (f.state.equals("waits") && f.begin == now) {
                f.state = "flies";
                f.craft.state = "flies";
            }
        }
        for (Craft c : crafts) {
            if (c.state.equals("flies")) {
                Flight f = active(c);
                int k = now - f.begin;
                if (k > 0) {
                    c.place = f.place(k);
                    c.battery -= price(f.moves.get(k - 1), c.place.layer, gust);
                }
            } else if (c.state.equals("lost")) {
                int move = homeMove(c.place, c.goal);
                c.place = after(c.place, move);
                c.battery -= price(move, c.place.layer, gust);
            }
        }
        for (Craft c : crafts) {
            if (inTheAirOrOnItsWay(c) && c.battery < 0) {
                goDown(c);
            }
        }
        List<Craft> together = new ArrayList<>();
        for (Craft c : crafts) {
            for (Craft d : crafts) {
                boolean both = inTheAirOrOnItsWay(c) && inTheAirOrOnItsWay(d) && c != d;
                if (both && c.place.layer > 0 && c.place.same(d.place) && !together.contains(c)) {
                    together.add(c);
                }
            }
        }
        for (Craft c : together) {
            goDown(c);
            bumped++;
        }
        for (Flight f : flights) {
            if (f.state.equals("flies") && f.end() == now) {
                f.state = "ended";
                f.craft.state = "parked";
            }
        }
        for (Craft c : crafts) {
            if (c.state.equals("lost") && c.place.layer == 0) {
                c.state = "parked";
            }
        }
    }

    private static boolean inTheAirOrOnItsWay(Craft c) {
        return c.state.equals("flies") || c.state.equals("lost");
    }

    private void goDown(Craft c) {
        Flight f = active(c);
        if (f != null) {
            f.state = "broken";
        }
        c.state = "down";
    }

    private static int homeMove(Spot3 s, int goal) {
        if (s.cell() == goal) return 6;
        if (s.layer < 4) return 5;
        if (s.x < goal % 10) return 1;
        if (s.x > goal % 10) return 2;
        return s.y < goal / 10 ? 3 : 4;
    }

    private static Spot3 after(Spot3 s, int move) {
        int dx = move == 1 ? 1 : move == 2 ? -1 : 0;
        int dy = move == 3 ? 1 : move == 4 ? -1 : 0;
        int dz = move == 5 ? 1 : move == 6 ? -1 : 0;
        return new Spot3(s.x + dx, s.y + dy, s.layer + dz);
    }

    int lose(int machine) {
        outside(!between(machine, 0, crafts.size() - 1));
        Craft c = crafts.get(machine);
        state(!c.state.equals("flies") || c.place.layer == 0);
        active(c).state = "broken";
        c.state = "lost";
        for (int far = 0; far <= 18; far++) {
            for (int s : spots) {
                if (apart(s, c.place.cell()) == far) {
                    c.goal = s;
                    return s;
                }
            }
        }
        throw new AssertionError("no spot");
    }

    private static int apart(int cell, int other) {
        return Math.abs(cell % 10 - other % 10) + Math.abs(cell / 10 - other / 10);
    }

    int hold(int machine, int steps) {
        outside(!between(machine, 0, crafts.size() - 1));
        argument(!between(steps, 1, 10));
        Craft c = crafts.get(machine);
        state(!c.state.equals("flies") || c.place.layer == 0);
        Flight f = active(c);
        Flight held = new Flight();
        held.craft = c;
        held.begin = f.begin;
        held.startCell = f.startCell;
        held.moves.addAll(f.moves);
        for (int i = 0; i < steps; i++) {
            held.moves.add(now - f.begin, 0);
        }
        state(held.moves.size() > 80);
        state(zoneOf(held, now - f.begin + 1) >= 0);
        for (Flight o : flights) {
            state(o != f && (o.state.equals("flies") || o.state.equals("waits")) && meeting(held, o));
        }
        state(lowPlace(held, now - f.begin, c.battery) >= 0);
        f.moves = held.moves;
        return f.end();
    }

    int time() {
        return now;
    }

    int alerts() {
        int bits = 0;
        for (Craft c : crafts) {
            if (c.state.equals("flies") && alerted(active(c))) {
                bits += 1 << c.number;
            }
        }
        return bits;
    }

    private boolean alerted(Flight f) {
        for (int t = now + 1; t <= now + 10; t++) {
            Spot3 s = f.at(t);
            if (s == null) {
                continue;
            }
            for (Zone z : zones) {
                if (z.has(s, t)) {
                    return true;
                }
            }
            for (Craft c : crafts) {
                if (c.state.equals("lost")) {
                    for (int d = -1; d <= 1; d++) {
                        Spot3 there = ahead(c, t + d - now);
                        if (there.layer > 0 && there.same(s)) {
                            return true;
                        }
                    }
                }
            }
        }
        return false;
    }

    private static Spot3 ahead(Craft c, int steps) {
        Spot3 s = c.place;
        for (int i = 0; i < steps && s.layer > 0; i++) {
            s = after(s, homeMove(s, c.goal));
        }
        return s;
    }

    int home(int cell) {
        outside(!between(cell, 0, 99));
        return spots.stream().mapToInt(s -> apart(s, cell)).min().orElse(-1);
    }

    int placeAt(int path, int time) {
        outside(!between(path, 0, flights.size() - 1));
        Spot3 s = flights.get(path).at(time);
        return s == null ? -1 : 100 * s.layer + s.cell();
    }

    boolean meets(int path, int other) {
        outside(!between(path, 0, flights.size() - 1) || !between(other, 0, flights.size() - 1));
        return path != other && meeting(flights.get(path), flights.get(other));
    }

    boolean meetsAnew(int path, int other) {
        return meets(path, other);
    }

    int ofMachine(int machine, int what) {
        outside(!between(machine, 0, crafts.size() - 1));
        argument(!between(what, 0, 5));
        Craft c = crafts.get(machine);
        Flight f = active(c);
        int[] told = {List.of("parked", "flies", "lost", "down").indexOf(c.state), c.place.cell(), c.place.layer,
            c.battery, c.firm, f == null ? -1 : f.number};
        return told[what];
    }

    int ofPath(int path, int what) {
        outside(!between(path, 0, flights.size() - 1));
        argument(!between(what, 0, 4));
        Flight f = flights.get(path);
        int[] told = {List.of("waits", "flies", "ended", "withdrawn", "broken").indexOf(f.state), f.craft.number,
            f.begin, f.end(), f.urgency};
        return told[what];
    }

    int count(int what) {
        argument(!between(what, 0, 4));
        int[] told = {flights.size(), refusals,
            (int) flights.stream().filter(f -> f.state.equals("withdrawn")).count(),
            (int) crafts.stream().filter(c -> c.state.equals("down")).count(), bumped};
        return told[what];
    }
}
