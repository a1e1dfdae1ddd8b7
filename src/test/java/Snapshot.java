/** All that can be asked of a SkyLanes, as one text. */
final class Snapshot {
    private Snapshot() {
    }

    static String of(SkyLanes x) {
        StringBuilder text = new StringBuilder();
        text.append("time ").append(x.time()).append(" why ").append(x.why()).append(" alerts ").append(x.alerts());
        for (int what = 0; what <= 4; what++) {
            text.append(" count").append(what).append(' ').append(x.count(what));
        }
        homes(x, text);
        machines(x, text);
        paths(x, text);
        return text.toString();
    }

    private static void homes(SkyLanes x, StringBuilder text) {
        text.append(" homes");
        for (int cell = 0; cell < 100; cell++) {
            text.append(' ').append(x.home(cell));
        }
    }

    private static void machines(SkyLanes x, StringBuilder text) {
        try {
            for (int m = 0; m < 100; m++) {
                text.append("\n  machine ").append(m).append(" takes ").append(x.takes(m)).append(':');
                for (int what = 0; what <= 5; what++) {
                    text.append(' ').append(x.ofMachine(m, what));
                }
            }
        } catch (IndexOutOfBoundsException e) {
            text.append(" no more");
        }
    }

    private static void paths(SkyLanes x, StringBuilder text) {
        for (int p = 0; p < x.count(0); p++) {
            text.append("\n  path ").append(p).append(':');
            for (int what = 0; what <= 4; what++) {
                text.append(' ').append(x.ofPath(p, what));
            }
            text.append(" at");
            for (int time = x.ofPath(p, 2) - 1; time <= x.ofPath(p, 3) + 1; time++) {
                text.append(' ').append(x.placeAt(p, time));
            }
            text.append(" meets");
            for (int other = 0; other < x.count(0); other++) {
                text.append(x.meets(p, other) ? " 1" : " 0").append(x.meetsAnew(p, other) ? "1" : "0");
            }
        }
    }
}
