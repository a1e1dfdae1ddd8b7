/** Compares answers with those that are due, prints each that is wrong, and ends with exit code 1 if there was one. */
final class Due {
    interface Call {
        void run();
    }

    private int wrong = 0;
    private int asked = 0;

    void is(String call, long got, long want) {
        asked++;
        if (got != want) {
            tell(call + " answered " + got + ", due is " + want);
        }
    }

    void is(String call, boolean got, boolean want) {
        is(call, got ? 1 : 0, want ? 1 : 0);
    }

    void same(String call, String got, String want) {
        asked++;
        if (!got.equals(want)) {
            tell(call + ":\n  " + got + "\ndue is:\n  " + want);
        }
    }

    void outside(String call, SkyLanes x, Call c) {
        thrown(call, x, c, IndexOutOfBoundsException.class);
    }

    void badArgument(String call, SkyLanes x, Call c) {
        thrown(call, x, c, IllegalArgumentException.class);
    }

    void badState(String call, SkyLanes x, Call c) {
        thrown(call, x, c, IllegalStateException.class);
    }

    /** The call throws just that exception, and what is asked then is as it was; RefusedCallTest looks further. */
    private void thrown(String call, SkyLanes x, Call c, Class<? extends RuntimeException> want) {
        String before = Snapshot.brief(x);
        Class<?> got = null;
        try {
            c.run();
        } catch (RuntimeException e) {
            got = e.getClass();
        }
        asked++;
        if (got != want) {
            tell(call + " threw " + got + ", due is " + want);
        }
        same("what can be asked behind " + call, Snapshot.brief(x), before);
    }

    void end() {
        System.out.println(asked + " answers, " + wrong + " wrong");
        if (wrong != 0) {
            System.exit(1);
        }
    }

    private void tell(String text) {
        wrong++;
        if (wrong <= 50) {
            System.out.println(text);
        }
    }
}
