import java.util.NoSuchElementException;

/** What the tests share: a call's answer beside the one that is due, and texts put on a TAPE. */
final class Due {
    static final Class<?> ARGUMENT = IllegalArgumentException.class;
    static final Class<?> STATE = IllegalStateException.class;
    static final Class<?> ELEMENT = NoSuchElementException.class;

    interface Call {
        Object go();
    }

    private static int wrong = 0;
    private static int asked = 0;

    private Due() {
    }

    static void is(String call, long got, long want) {
        asked++;
        if (got != want) {
            wrong++;
            System.out.println(call + " answered " + got + ", due is " + want);
        }
    }

    static void same(String what, String got, String want) {
        asked++;
        if (!got.equals(want)) {
            wrong++;
            System.out.println(what + " is\n" + got + "\ndue is\n" + want);
        }
    }

    static void refused(String call, Class<?> kind, Call made) {
        asked++;
        String got;
        try {
            got = "answered " + made.go();
        } catch (RuntimeException e) {
            if (e.getClass() == kind) {
                return;
            }
            got = "threw " + e.getClass().getName();
        }
        wrong++;
        System.out.println(call + " " + got + ", due is " + kind.getName());
    }

    static int feed(ClockKeeper k, String text) {
        int all = k.count(6);
        for (int i = 0; i < text.length(); i += 20) {
            int[] f = new int[5];
            for (int j = 0; j < 20; j++) {
                f[j / 4] = f[j / 4] << 8 | (i + j < text.length() ? text.charAt(i + j) & 255 : 0);
            }
            all = k.feed(f[0], f[1], f[2], f[3], f[4]);
        }
        return all;
    }

    static int clock(ClockKeeper k, int x, int y, String text) {
        feed(k, text);
        return k.clock(x, y, text.length());
    }

    static int refit(ClockKeeper k, int clock, String text) {
        feed(k, text);
        return k.refit(clock, text.length());
    }

    /** A keeper with one clock of that text at 0, 0. */
    static ClockKeeper with(String text) {
        ClockKeeper k = new ClockKeeper();
        is("clock of " + text, clock(k, 0, 0, text), 0);
        return k;
    }

    /** A text that can't be a clock's: its FAULT and the place. */
    static void faulty(String text, int fault, int place) {
        ClockKeeper k = new ClockKeeper();
        is("clock of \"" + text + "\"", clock(k, 0, 0, text), fault - 10);
        is("fault() of \"" + text + "\"", k.fault(), place);
        is("clocks behind \"" + text + "\"", k.count(1), 0);
    }

    static void fine(String text) {
        ClockKeeper k = new ClockKeeper();
        is("clock of \"" + text + "\"", clock(k, 0, 0, text), 0);
        is("fault() of \"" + text + "\"", k.fault(), -1);
    }

    static void pass(ClockKeeper k, int minutes) {
        for (int left = minutes; left > 0; left -= 10000) {
            k.wait(Math.min(left, 10000));
        }
    }

    static void end() {
        if (asked == 0 || wrong > 0) {
            System.out.println(wrong + " of " + asked + " answers are not as due");
            System.exit(1);
        }
    }
}
