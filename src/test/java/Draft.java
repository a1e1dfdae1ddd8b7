/** Puts rows of moves in the draft of a SkyLanes. */
final class Draft {
    private static final String LETTERS = ".EWSNUD";

    private Draft() {
    }

    /** Empties the draft and puts moves in it, each a letter (. WAIT, E, W, S, N, U, D) and how many times. */
    static void put(SkyLanes x, String moves) {
        x.clear();
        if (moves.isEmpty()) {
            return;
        }
        for (String part : moves.split(" ")) {
            x.move(LETTERS.indexOf(part.charAt(0)), Integer.parseInt(part.substring(1)));
        }
    }

    static int file(SkyLanes x, String moves, int machine, int time, int urgency) {
        put(x, moves);
        return x.file(machine, time, urgency);
    }

    /** A city with these spots, and a machine of the firm 0 that is full with 100 at the first of them. */
    static SkyLanes city(int... spots) {
        SkyLanes x = new SkyLanes();
        for (int cell : spots) {
            x.spot(cell);
        }
        x.machine(0, spots[0], 100);
        return x;
    }
}
