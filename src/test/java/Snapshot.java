/** What can be asked of a SkyLanes, as one text. */
final class Snapshot {
    private static final int[] CELLS = {0, 9, 45, 90, 99};

    private Snapshot() {
    }

    /** In few calls: an object is used for at most 512 of them. */
    static String brief(SkyLanes x) {
        StringBuilder text = new StringBuilder();
        text.append("time ").append(x.time()).append(" why ").append(x.why()).append(" alerts ").append(x.alerts());
        for (int what = 0; what <= 4; what++) {
            text.append(" count").append(what).append(' ').append(x.count(what));
        }
        return text.toString();
    }

    /** With the machines, the paths and some ways home. */
    static String of(SkyLanes x) {
        StringBuilder text = new StringBuilder(brief(x));
        text.append(" homes");
        for (int cell : CELLS) {
            text.append(' ').append(x.home(cell));
        }
        machines(x, text);
        paths(x, text);
        return text.toString();
    }

    private static void machines(SkyLanes x, StringBuilder text) {
        try {
            for (int m = 0; m < 100; m++) {
                text.append("\n  machine ").append(m).append(" takes ").append(x.takes(m)).append(':');
                for (int what = 0; what <= 5; what++) {
                    text.append(' ').append(x.ofMachine(m, what));
                }
            }
        } catch (IndexOutOfBoundsException e) {
            text.append(" no more");
        }
    }

    private static void paths(SkyLanes x, StringBuilder text) {
        int paths = x.count(0);
        for (int p = 0; p < paths; p++) {
            text.append("\n  path ").append(p).append(':');
            for (int what = 0; what <= 4; what++) {
                text.append(' ').append(x.ofPath(p, what));
            }
            int now = x.time();
            for (int time = now; time <= now + 3; time++) {
                text.append(" at ").append(time).append(": ").append(x.placeAt(p, time));
            }
            int other = (p + 1) % paths;
            text.append(" meets ").append(x.meets(p, other)).append(' ').append(x.meetsAnew(p, other));
        }
    }
}
