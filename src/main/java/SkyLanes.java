/**
 * Small machines above a city, whose paths are reserved in space and time.
 *
 * A place is held as one number, 100 times the layer and the cell, together: the number that placeAt tells.
 */
public final class SkyLanes {
    public static final int NONE = -1;
    public static final int PARKED = 0, FLIES = 1, LOST = 2, DOWN = 3;
    public static final int WAITS = 0, ENDED = 2, WITHDRAWN = 3, BROKEN = 4;
    public static final int BUSY = 1, FULL = 2, WAY = 3, BATTERY = 4, ROOM = 5, MEETS = 6;

    private static final int GO_WAIT = 0, GO_EAST = 1, GO_WEST = 2, GO_SOUTH = 3, GO_NORTH = 4, GO_UP = 5, GO_DOWN = 6;

    private static final int SIDE = 10;
    private static final int CELLS = 100;
    /** What a place has more than the one a layer below; a place below it is on the ground. */
    private static final int LAYER = 100;
    private static final int TOP_LAYER = 3;
    private static final int HOME_LAYER = 4;

    private static final int MOST_SPOTS = 8;
    private static final int MOST_ROOMS = 10;
    private static final int MOST_MACHINES = 10;
    private static final int MOST_PATHS = 40;
    private static final int MOST_WAITING = 3;
    private static final int DRAFT_MOVES = 40;
    private static final int PATH_MOVES = 80;
    private static final int RESERVE = 10;
    private static final int CHARGE = 5;
    private static final int ALERT_TIMES = 10;
    private static final int FILE_AHEAD = 200;
    private static final int LAST_TIME = 20000;
    private static final int LAST_ROOM_TIME = 100000;

    private final City city = new City();
    private final Room[] rooms = new Room[MOST_ROOMS];
    private final Machine[] machines = new Machine[MOST_MACHINES];
    private final Path[] paths = new Path[MOST_PATHS];
    private final int[] draft = new int[DRAFT_MOVES];
    /** The path that is being judged, as it is filed or held. */
    private Path trial = new Path();
    private int roomCount;
    private int machineCount;
    private int pathCount;
    private int draftLength;
    private int now;
    private int refusals;
    private int cause = NONE;
    private int collided;

    public SkyLanes() {
    }

    // ---- the city

    public int tower(int cell, int height) throws IndexOutOfBoundsException, IllegalArgumentException, IllegalStateException {
        if (isNoCell(cell)) {
            throw new IndexOutOfBoundsException("no such cell");
        }
        if (isOut(height, 0, TOP_LAYER)) {
            throw new IllegalArgumentException("height out of range");
        }
        if (city.isSpot(cell) || pathCount > 0) {
            throw new IllegalStateException("a spot, or a path was accepted");
        }
        int before = city.heightOf(cell);
        city.setHeight(cell, height);
        return before;
    }

    public int spot(int cell) throws IndexOutOfBoundsException, IllegalStateException {
        if (isNoCell(cell)) {
            throw new IndexOutOfBoundsException("no such cell");
        }
        if (city.isSpot(cell) || city.heightOf(cell) > 0 || city.spotCount >= MOST_SPOTS) {
            throw new IllegalStateException("a spot, a tower, or too many spots");
        }
        city.addSpot(cell);
        return city.spotCount;
    }

    public int wind(int layer, int wind) throws IllegalArgumentException {
        if (isOut(layer, 1, TOP_LAYER) || isOut(wind, 0, 3)) {
            throw new IllegalArgumentException("layer or wind out of range");
        }
        return City.tell(city.winds, layer, wind);
    }

    public int gust(int layer, int gust) throws IllegalArgumentException {
        if (isOut(layer, 1, TOP_LAYER) || isOut(gust, 0, 5)) {
            throw new IllegalArgumentException("layer or gust out of range");
        }
        return City.tell(city.gusts, layer, gust);
    }

    public int close(int cell, int other, int layer, int from, int to) throws IndexOutOfBoundsException, IllegalArgumentException, IllegalStateException {
        if (isNoCell(cell) || isNoCell(other)) {
            throw new IndexOutOfBoundsException("no such cell");
        }
        if (isOut(layer, 1, TOP_LAYER) || isOut(from, 0, LAST_ROOM_TIME) || isOut(to, from, LAST_ROOM_TIME)) {
            throw new IllegalArgumentException("layer, from or to out of range");
        }
        int number = roomCount;
        if (isOut(number, 0, rooms.length - 1)) {
            throw new IllegalStateException("too many rooms");
        }
        Room room = new Room(cell, other, layer);
        room.from = from;
        room.to = to;
        rooms[number] = room;
        roomCount++;
        withdrawThoseIn(room);
        return number;
    }

    public void open(int room) throws IndexOutOfBoundsException, IllegalStateException {
        Room closed = roomOf(room);
        if (closed == null) {
            throw new IndexOutOfBoundsException("no such room");
        }
        if (closed.opened) {
            throw new IllegalStateException("it was opened");
        }
        closed.opened = true;
    }

    // ---- machines, paths

    public int machine(int firm, int cell, int full) throws IndexOutOfBoundsException, IllegalArgumentException, IllegalStateException {
        if (isNoCell(cell)) {
            throw new IndexOutOfBoundsException("no such cell");
        }
        if (isOut(firm, 0, 3) || isOut(full, 20, 200)) {
            throw new IllegalArgumentException("firm or full out of range");
        }
        int number = machineCount;
        if (!city.isSpot(cell) || isOut(number, 0, machines.length - 1)) {
            throw new IllegalStateException("no spot, or too many machines");
        }
        machines[number] = new Machine(firm, cell, full);
        machineCount++;
        return number;
    }

    public int move(int move, int times) throws IllegalArgumentException, IllegalStateException {
        if (isOut(move, GO_WAIT, GO_DOWN) || isOut(times, 1, 10)) {
            throw new IllegalArgumentException("move or times out of range");
        }
        if (draftLength + times > DRAFT_MOVES) {
            throw new IllegalStateException("too many moves");
        }
        for (int i = 0; i < times && draftLength >= 0 && draftLength < draft.length; i++) {
            draft[draftLength] = move;
            draftLength++;
        }
        return draftLength;
    }

    public int clear() {
        int had = draftLength;
        draftLength = 0;
        return had;
    }

    public int takes(int machine) throws IndexOutOfBoundsException {
        Machine m = machineOf(machine);
        if (m == null) {
            throw new IndexOutOfBoundsException("no such machine");
        }
        if (m.state != PARKED || layDraft(m.place) != NONE) {
            return NONE;
        }
        int taken = 0;
        for (int k = 1; k <= trial.last; k++) {
            taken += city.taken(trial.placeOf(k - 1), trial.placeOf(k), city.winds);
        }
        return taken;
    }

    public int file(int machine, int time, int urgency) throws IndexOutOfBoundsException, IllegalArgumentException, IllegalStateException {
        Machine m = machineOf(machine);
        if (m == null) {
            throw new IndexOutOfBoundsException("no such machine");
        }
        if (isOut(time, now + 1, now + FILE_AHEAD) || isOut(urgency, 0, 3)) {
            throw new IllegalArgumentException("time or urgency out of range");
        }
        if (pathCount >= MOST_PATHS) {
            throw new IllegalStateException("too many paths");
        }
        trial.number = pathCount;
        trial.machine = machine;
        trial.begin = time;
        trial.urgency = urgency;
        int refused = judge(m);
        return refused < 0 ? refused : accept(m);
    }

    public int why() {
        return cause;
    }

    public void withdraw(int path) throws IndexOutOfBoundsException, IllegalStateException {
        Path p = pathOf(path);
        if (p == null) {
            throw new IndexOutOfBoundsException("no such path");
        }
        if (p.state != WAITS) {
            throw new IllegalStateException("it does not wait");
        }
        finish(p, WITHDRAWN);
    }

    // ---- time

    public int tick(int steps) throws IllegalArgumentException, IllegalStateException {
        if (isOut(steps, 1, 50)) {
            throw new IllegalArgumentException("steps out of range");
        }
        if (now + steps > LAST_TIME) {
            throw new IllegalStateException("too late");
        }
        for (int i = 0; i < steps; i++) {
            step();
        }
        return now;
    }

    public int lose(int machine) throws IndexOutOfBoundsException, IllegalStateException {
        Machine m = machineOf(machine);
        if (m == null) {
            throw new IndexOutOfBoundsException("no such machine");
        }
        Path p = flownBy(m);
        if (p == null || isOnGround(m.place)) {
            throw new IllegalStateException("it does not fly, or is on the ground");
        }
        finish(p, BROKEN);
        m.state = LOST;
        m.target = city.nearestSpot(m.place % LAYER);
        return m.target;
    }

    public int hold(int machine, int steps) throws IndexOutOfBoundsException, IllegalArgumentException, IllegalStateException {
        Machine m = machineOf(machine);
        if (m == null) {
            throw new IndexOutOfBoundsException("no such machine");
        }
        if (isOut(steps, 1, 10)) {
            throw new IllegalArgumentException("steps out of range");
        }
        Path p = flownBy(m);
        if (p == null || isOnGround(m.place) || !canBeHeld(p, steps, m.battery)) {
            throw new IllegalStateException("it cannot be held");
        }
        p.takePlacesOf(trial);
        return p.end();
    }

    // ---- what is asked

    public int time() {
        return now;
    }

    public int alerts() {
        int alerted = 0;
        for (int i = 0; i < machines.length; i++) {
            Path p = flownBy(machines[i]);
            if (p != null && (comesIntoRoom(p) || comesNearLost(p))) {
                alerted |= 1 << i;
            }
        }
        return alerted;
    }

    public int home(int cell) throws IndexOutOfBoundsException {
        if (isNoCell(cell)) {
            throw new IndexOutOfBoundsException("no such cell");
        }
        return city.wayHome(cell);
    }

    public int placeAt(int path, int time) throws IndexOutOfBoundsException {
        Path p = pathOf(path);
        if (p == null) {
            throw new IndexOutOfBoundsException("no such path");
        }
        return p.placeWhen(time);
    }

    public boolean meets(int path, int other) throws IndexOutOfBoundsException {
        Path p = pathOf(path);
        Path q = pathOf(other);
        if (p == null || q == null) {
            throw new IndexOutOfBoundsException("no such path");
        }
        return path != other && meetFrom(p, q, 0);
    }

    public boolean meetsAnew(int path, int other) throws IndexOutOfBoundsException {
        Path p = pathOf(path);
        Path q = pathOf(other);
        if (p == null || q == null) {
            throw new IndexOutOfBoundsException("no such path");
        }
        return path != other && meetTimeByTime(p, q);
    }

    public int ofMachine(int machine, int what) throws IndexOutOfBoundsException, IllegalArgumentException {
        Machine m = machineOf(machine);
        if (m == null) {
            throw new IndexOutOfBoundsException("no such machine");
        }
        switch (what) {
            case 0: return m.state;
            case 1: return m.place % LAYER;
            case 2: return m.place / LAYER;
            case 3: return m.battery;
            case 4: return m.firm;
            case 5: return m.path;
            default: throw new IllegalArgumentException("what out of range");
        }
    }

    public int ofPath(int path, int what) throws IndexOutOfBoundsException, IllegalArgumentException {
        Path p = pathOf(path);
        if (p == null) {
            throw new IndexOutOfBoundsException("no such path");
        }
        switch (what) {
            case 0: return p.state;
            case 1: return p.machine;
            case 2: return p.begin;
            case 3: return p.end();
            case 4: return p.urgency;
            default: throw new IllegalArgumentException("what out of range");
        }
    }

    public int count(int what) throws IllegalArgumentException {
        switch (what) {
            case 0: return pathCount;
            case 1: return refusals;
            case 2: return withdrawnPaths();
            case 3: return machinesDown();
            case 4: return collided;
            default: throw new IllegalArgumentException("what out of range");
        }
    }

    // ---- numbers and ranges

    private static boolean isOut(int value, int least, int most) {
        return value < least || value > most;
    }

    private static boolean isNoCell(int cell) {
        return isOut(cell, 0, CELLS - 1);
    }

    private static boolean isOnGround(int place) {
        return place < LAYER;
    }

    private Room roomOf(int number) {
        return isOut(number, 0, rooms.length - 1) ? null : rooms[number];
    }

    private Machine machineOf(int number) {
        return isOut(number, 0, machines.length - 1) ? null : machines[number];
    }

    private Path pathOf(int number) {
        return isOut(number, 0, paths.length - 1) ? null : paths[number];
    }

    /** The path on which a machine flies; null if it does not fly. */
    private Path flownBy(Machine m) {
        return m == null || m.state != FLIES ? null : pathOf(m.path);
    }

    private int withdrawnPaths() {
        int withdrawn = 0;
        for (Path p : paths) {
            if (p != null && p.state == WITHDRAWN) {
                withdrawn++;
            }
        }
        return withdrawn;
    }

    private int machinesDown() {
        int down = 0;
        for (Machine m : machines) {
            if (m != null && m.state == DOWN) {
                down++;
            }
        }
        return down;
    }

    // ---- filing

    /** Refuses the trial as a path of a machine for the first reason that there is; returns 0 without one. */
    private int judge(Machine m) {
        if (m.state != PARKED) {
            return refuse(BUSY, NONE);
        }
        if (m.path != NONE) {
            return refuse(BUSY, m.path);
        }
        if (waitingOfFirm(m.firm) >= MOST_WAITING) {
            return refuse(FULL, NONE);
        }
        int bad = layDraft(m.place);
        if (bad != NONE) {
            return refuse(WAY, bad);
        }
        int low = placeTooLow(trial, 0, m.batteryAfter(trial.begin - now));
        if (low != NONE) {
            return refuse(BATTERY, low);
        }
        int room = roomHolding(trial, 0);
        if (room != NONE) {
            return refuse(ROOM, room);
        }
        int other = pathInTheWay(trial);
        if (other != NONE) {
            return refuse(MEETS, other);
        }
        return 0;
    }

    private int refuse(int reason, int of) {
        refusals++;
        cause = of;
        return -reason;
    }

    private int accept(Machine m) {
        withdrawThoseMet(trial);
        int number = pathCount;
        if (number >= 0 && number < paths.length) {
            paths[number] = trial;
            pathCount++;
        }
        trial.state = WAITS;
        m.path = number;
        draftLength = 0;
        trial = new Path();
        return number;
    }

    private int waitingOfFirm(int firm) {
        int waiting = 0;
        for (Path p : paths) {
            Machine m = p == null || p.state != WAITS ? null : machineOf(p.machine);
            if (m != null && m.firm == firm) {
                waiting++;
            }
        }
        return waiting;
    }

    /** Lays the draft's places in the trial, up to the first one that is refused: that one, or NONE. */
    private int layDraft(int start) {
        int place = start;
        trial.last = 0;
        trial.setPlace(0, place);
        for (int k = 1; k <= draftLength && k <= draft.length; k++) {
            place = placeBehind(place, draft[k - 1]);
            if (!city.isFree(place)) {
                return k;
            }
            trial.last = k;
            trial.setPlace(k, place);
        }
        return draftLength == 0 || !isOnGround(place) ? draftLength : NONE;
    }

    /** The place to which a move leads; NONE beyond the city, below the ground or above the layer 3. */
    private static int placeBehind(int place, int move) {
        int x = place % SIDE;
        int y = place / SIDE % SIDE;
        int layer = place / LAYER;
        switch (move) {
            case GO_EAST: x++; break;
            case GO_WEST: x--; break;
            case GO_SOUTH: y++; break;
            case GO_NORTH: y--; break;
            case GO_UP: layer++; break;
            case GO_DOWN: layer--; break;
            default: break;
        }
        if (isOut(x, 0, SIDE - 1) || isOut(y, 0, SIDE - 1) || isOut(layer, 0, TOP_LAYER)) {
            return NONE;
        }
        return LAYER * layer + SIDE * y + x;
    }

    /** The first place behind place k at which too little is left, with so much at place k; NONE without one. */
    private int placeTooLow(Path p, int k, int battery) {
        int left = battery;
        for (int i = k + 1; i <= p.last; i++) {
            int place = p.placeOf(i);
            left -= city.taken(p.placeOf(i - 1), place, city.winds);
            int needed = isOnGround(place) ? 0 : city.wayHome(place % LAYER) + RESERVE;
            if (left < needed) {
                return i;
            }
        }
        return NONE;
    }

    /** The lowest closed room in which a path is at place k or behind it; NONE without one. */
    private int roomHolding(Path p, int k) {
        for (int i = 0; i < rooms.length; i++) {
            if (isInRoom(p, k, rooms[i])) {
                return i;
            }
        }
        return NONE;
    }

    private static boolean isInRoom(Path p, int k, Room room) {
        if (room == null) {
            return false;
        }
        for (int i = k; i <= p.last; i++) {
            if (room.isClosedAt(p.placeOf(i), p.begin + i)) {
                return true;
            }
        }
        return false;
    }

    /** The lowest path that p meets and to which it gives way; NONE without one. */
    private int pathInTheWay(Path p) {
        for (int i = 0; i < paths.length; i++) {
            Path q = paths[i];
            if (q != null && givesWay(p, q) && meetFrom(p, q, 0)) {
                return i;
            }
        }
        return NONE;
    }

    private static boolean givesWay(Path p, Path q) {
        return q.state == FLIES || q.state == WAITS && q.urgency <= p.urgency;
    }

    private void withdrawThoseMet(Path p) {
        for (Path q : paths) {
            if (q != null && q.state == WAITS && meetFrom(p, q, 0)) {
                finish(q, WITHDRAWN);
            }
        }
    }

    private void withdrawThoseIn(Room room) {
        for (Path p : paths) {
            if (p != null && p.state == WAITS && isInRoom(p, 0, room)) {
                finish(p, WITHDRAWN);
            }
        }
    }

    /** Ends a path that waits or flies; its machine has none then. */
    private void finish(Path p, int state) {
        p.state = state;
        Machine m = machineOf(p.machine);
        if (m != null) {
            m.path = NONE;
        }
    }

    // ---- meeting

    /** Whether two paths meet by places of a time and later ones. */
    private static boolean meetFrom(Path p, Path q, int time) {
        for (int k = 0; k <= p.last; k++) {
            int place = p.placeOf(k);
            int then = p.begin + k;
            if (then >= time && !isOnGround(place) && isThereAbout(q, place, then, time)) {
                return true;
            }
        }
        return false;
    }

    /** Whether a path is at a place at a time or 1 apart, none of these before the earliest one. */
    private static boolean isThereAbout(Path q, int place, int time, int earliest) {
        return time - 1 >= earliest && q.placeWhen(time - 1) == place
            || q.placeWhen(time) == place
            || q.placeWhen(time + 1) == place;
    }

    private static boolean meetTimeByTime(Path p, Path q) {
        int first = Math.max(p.begin, q.begin) - 1;
        int last = Math.min(p.end(), q.end());
        for (int time = first; time <= last; time++) {
            int one = p.placeWhen(time);
            int oneNext = p.placeWhen(time + 1);
            int other = q.placeWhen(time);
            int otherNext = q.placeWhen(time + 1);
            if (isSameInAir(one, other) || isSameInAir(one, otherNext) || isSameInAir(oneNext, other)) {
                return true;
            }
        }
        return false;
    }

    private static boolean isSameInAir(int place, int other) {
        return place == other && !isOnGround(place);
    }

    // ---- a step of time

    private void step() {
        now++;
        chargeParked();
        beginPaths();
        moveMachines();
        bringDownThoseTogether();
        landMachines();
    }

    private void chargeParked() {
        for (Machine m : machines) {
            if (m != null && m.state == PARKED) {
                m.battery = m.batteryAfter(1);
            }
        }
    }

    private void beginPaths() {
        for (Path p : paths) {
            Machine m = p == null || p.state != WAITS || p.begin != now ? null : machineOf(p.machine);
            if (m != null) {
                p.state = FLIES;
                m.state = FLIES;
            }
        }
    }

    private void moveMachines() {
        for (Machine m : machines) {
            Path p = flownBy(m);
            if (p != null && p.begin < now) {
                moveTo(m, p.placeWhen(now));
            }
            if (m != null && m.state == LOST) {
                moveTo(m, homeward(m.place, m.target));
            }
            if (isUnderWay(m) && m.battery < 0) {
                bringDown(m);
            }
        }
    }

    private static boolean isUnderWay(Machine m) {
        return m != null && (m.state == FLIES || m.state == LOST);
    }

    private void moveTo(Machine m, int place) {
        m.battery -= city.taken(m.place, place, city.gusts);
        m.place = place;
    }

    /** Where a machine that is LOST is a time later; on the ground it stays. */
    private static int homeward(int place, int target) {
        int cell = place % LAYER;
        if (isOnGround(place)) {
            return place;
        }
        if (cell == target) {
            return place - LAYER;
        }
        if (place / LAYER < HOME_LAYER) {
            return place + LAYER;
        }
        int x = cell % SIDE;
        int goal = target % SIDE;
        if (x != goal) {
            return x < goal ? place + 1 : place - 1;
        }
        return cell < target ? place + SIDE : place - SIDE;
    }

    private void bringDown(Machine m) {
        Path p = flownBy(m);
        if (p != null) {
            finish(p, BROKEN);
        }
        m.state = DOWN;
    }

    private void bringDownThoseTogether() {
        // All of them are found first: one that is DOWN no longer brings another down.
        int together = 0;
        for (int i = 0; i < machines.length; i++) {
            if (isTogether(i)) {
                together |= 1 << i;
            }
        }
        for (int i = 0; i < machines.length; i++) {
            Machine m = machines[i];
            if (m != null && (together >> i & 1) == 1) {
                bringDown(m);
                collided++;
            }
        }
    }

    private boolean isTogether(int number) {
        Machine m = machineOf(number);
        if (m == null || !isUnderWay(m) || isOnGround(m.place)) {
            return false;
        }
        for (int i = 0; i < machines.length; i++) {
            Machine other = machines[i];
            if (i != number && other != null && isUnderWay(other) && other.place == m.place) {
                return true;
            }
        }
        return false;
    }

    private void landMachines() {
        for (Machine m : machines) {
            Path p = flownBy(m);
            if (p != null && p.end() <= now) {
                finish(p, ENDED);
                m.state = PARKED;
            }
            if (m != null && m.state == LOST && isOnGround(m.place)) {
                m.state = PARKED;
            }
        }
    }

    // ---- holding

    /** Lays a path that is held in the trial; returns whether that may be. */
    private boolean canBeHeld(Path p, int steps, int battery) {
        if (p.last + steps > PATH_MOVES) {
            return false;
        }
        int k = now - p.begin;
        trial.number = p.number;
        trial.begin = p.begin;
        trial.last = p.last + steps;
        for (int i = 0; i <= trial.last; i++) {
            int old = i <= k ? i : Math.max(k, i - steps);
            trial.setPlace(i, p.placeOf(old));
        }
        return roomHolding(trial, k + 1) == NONE
            && placeTooLow(trial, k, battery) == NONE
            && !meetsAnyOther(trial);
    }

    private boolean meetsAnyOther(Path p) {
        for (Path q : paths) {
            if (q != null && q.number != p.number && (q.state == FLIES || q.state == WAITS) && meetFrom(p, q, now)) {
                return true;
            }
        }
        return false;
    }

    // ---- alerts

    private boolean comesIntoRoom(Path p) {
        for (int time = now + 1; time <= now + ALERT_TIMES; time++) {
            for (Room room : rooms) {
                if (room != null && room.isClosedAt(p.placeWhen(time), time)) {
                    return true;
                }
            }
        }
        return false;
    }

    private boolean comesNearLost(Path p) {
        for (Machine m : machines) {
            if (m != null && m.state == LOST && comesNear(p, m)) {
                return true;
            }
        }
        return false;
    }

    private boolean comesNear(Path p, Machine lost) {
        int before = lost.place;
        int then = homeward(before, lost.target);
        for (int time = now + 1; time <= now + ALERT_TIMES; time++) {
            int after = homeward(then, lost.target);
            int place = p.placeWhen(time);
            if (!isOnGround(place) && (place == before || place == then || place == after)) {
                return true;
            }
            before = then;
            then = after;
        }
        return false;
    }

    /** The towers, the spots and the winds. */
    private static final class City {
        private final int[] heights = new int[CELLS];
        private final int[] spots = new int[MOST_SPOTS];
        private final int[] winds = new int[HOME_LAYER + 1];
        private final int[] gusts = new int[HOME_LAYER + 1];
        private int spotCount;

        private int heightOf(int cell) {
            return cell < 0 || cell >= heights.length ? 0 : heights[cell];
        }

        private void setHeight(int cell, int height) {
            if (cell >= 0 && cell < heights.length) {
                heights[cell] = height;
            }
        }

        private void addSpot(int cell) {
            if (spotCount >= 0 && spotCount < spots.length) {
                spots[spotCount] = cell;
                spotCount++;
            }
        }

        private boolean isSpot(int cell) {
            for (int i = 0; i < spotCount && i < spots.length; i++) {
                if (spots[i] == cell) {
                    return true;
                }
            }
            return false;
        }

        private int nearestSpot(int cell) {
            int nearest = NONE;
            int least = 0;
            for (int i = 0; i < spotCount && i < spots.length; i++) {
                int far = distance(cell, spots[i]);
                if (nearest == NONE || far < least || far == least && spots[i] < nearest) {
                    nearest = spots[i];
                    least = far;
                }
            }
            return nearest;
        }

        private int wayHome(int cell) {
            int nearest = nearestSpot(cell);
            return nearest == NONE ? NONE : distance(cell, nearest);
        }

        private static int distance(int cell, int other) {
            return Math.abs(cell % SIDE - other % SIDE) + Math.abs(cell / SIDE - other / SIDE);
        }

        private boolean isFree(int place) {
            if (place == NONE) {
                return false;
            }
            int cell = place % LAYER;
            return isOnGround(place) ? isSpot(cell) : place / LAYER > heightOf(cell);
        }

        /** What a move from one place to another takes; the row has the winds, or the gusts, of the layers. */
        private int taken(int from, int to, int[] row) {
            if (from == to && isOnGround(to)) {
                return 0;
            }
            int layer = to / LAYER;
            int effort = layer > from / LAYER ? 2 : 1;
            return effort + atLayer(row, layer);
        }

        /** Tells a wind or a gust, that of the layer 3 for 4, too; returns what it was. */
        private static int tell(int[] row, int layer, int value) {
            int before = atLayer(row, layer);
            setLayer(row, layer, value);
            if (layer == TOP_LAYER) {
                setLayer(row, HOME_LAYER, value);
            }
            return before;
        }

        private static int atLayer(int[] row, int layer) {
            return row == null || layer < 0 || layer >= row.length ? 0 : row[layer];
        }

        private static void setLayer(int[] row, int layer, int value) {
            if (row != null && layer >= 0 && layer < row.length) {
                row[layer] = value;
            }
        }
    }

    private static final class Room {
        private final int west, east, north, south, top;
        private int from;
        private int to;
        private boolean opened;

        private Room(int cell, int other, int layer) {
            west = Math.min(cell % SIDE, other % SIDE);
            east = Math.max(cell % SIDE, other % SIDE);
            north = Math.min(cell / SIDE, other / SIDE);
            south = Math.max(cell / SIDE, other / SIDE);
            top = layer;
        }

        private boolean isClosedAt(int place, int time) {
            if (opened || isOnGround(place) || place / LAYER > top || isOut(time, from, to)) {
                return false;
            }
            return !isOut(place % SIDE, west, east) && !isOut(place / SIDE % SIDE, north, south);
        }
    }

    private static final class Machine {
        private final int firm;
        private final int full;
        private int battery;
        private int place;
        private int state = PARKED;
        /** The number of its path that waits or flies. */
        private int path = NONE;
        /** The spot to which it goes when it is LOST. */
        private int target = NONE;

        private Machine(int firm, int cell, int full) {
            this.firm = firm;
            this.full = full;
            battery = full;
            place = cell;
        }

        /** What is in the battery when it was PARKED for so many steps more. */
        private int batteryAfter(int steps) {
            return Math.min(full, battery + CHARGE * steps);
        }
    }

    private static final class Path {
        private final int[] places = new int[PATH_MOVES + 1];
        private int number;
        private int machine;
        private int begin;
        /** The number of its last place. */
        private int last;
        private int urgency;
        private int state;

        private int end() {
            return begin + last;
        }

        private int placeOf(int k) {
            return k < 0 || k > last || k >= places.length ? NONE : places[k];
        }

        private int placeWhen(int time) {
            return time < begin ? NONE : placeOf(time - begin);
        }

        private void setPlace(int k, int place) {
            if (k >= 0 && k < places.length) {
                places[k] = place;
            }
        }

        private void takePlacesOf(Path held) {
            last = held.last;
            for (int k = 0; k <= last; k++) {
                setPlace(k, held.placeOf(k));
            }
        }
    }
}
