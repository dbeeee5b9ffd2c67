/** A keeper in the midst of its work, and all that it can be asked: to see what a call leaves as it was. */
final class Town {
    static final int WHEEL = 0;
    static final int RACK = 1;
    static final int STANDING = 2;
    static final int NOBODY = 3;
    static final int MINUTE = 85080;

    interface Act {
        Object on(ClockKeeper k);
    }

    private Town() {
    }

    /** Three clocks on the 29th of month 2, at two in the morning; the third STANDS, and 20 bytes wait on the TAPE. */
    static ClockKeeper begun() {
        ClockKeeper k = new ClockKeeper();
        k.leap(true);
        k.warmth(-5);
        k.warmth(30);
        Due.clock(k, 3, 4, "run 31;base 7;warm 2;wear 3;pull 5;strokes 2000;quarters 1 0 2 3;calendar leap;"
            + "strike wheel 1,2,3,4,5,6,7,8,9,10,11,12;");
        Due.clock(k, 50, 60, "run 31;base -9;penny 6;strokes 2000;silent 23-1 held;calendar months;");
        Due.clock(k, 99, 0, "run 1;");
        k.keeper(7, 9);
        for (int i = 0; i < 8; i++) {
            k.wait(10000);
            k.wind(WHEEL, 0);
            k.wind(WHEEL, 1);
            k.wind(RACK, 0);
            k.wind(RACK, 1);
        }
        k.read(WHEEL, 70000, 4000);
        k.read(WHEEL, 80000, -3000);
        k.read(RACK, 75000, 12);
        k.law(WHEEL, 60000);
        k.law(RACK, 90000);
        k.wait(MINUTE - 80000);
        k.pennies(RACK, -3);
        Due.refit(k, RACK, "run 8;bell;");
        k.feed(0x72756e20, 0x323b2020, 0x20202020, 0x20202020, 0x20202020);
        return k;
    }

    static String state(ClockKeeper k) {
        StringBuilder all = new StringBuilder();
        for (int what = 0; what <= 8; what++) {
            all.append(" count").append(what).append(' ').append(k.count(what));
        }
        all.append(" fault ").append(k.fault());
        for (int minute = 59999; minute <= 90000; minute += 30001) {
            all.append(" lawful ").append(k.lawful(minute, 100000));
        }
        for (int i = 0; i <= 4; i++) {
            all.append(" sounding").append(i * 50 - i / 4).append(' ').append(k.sounding(i * 50 - i / 4, 1));
        }
        for (int clock = 0; clock < k.count(1); clock++) {
            addClock(all, k, clock);
        }
        return all.toString();
    }

    private static void addClock(StringBuilder all, ClockKeeper k, int c) {
        all.append("\nclock ").append(c).append(" dial ").append(k.dial(c)).append(" error ").append(k.error(c));
        all.append(" rate ").append(k.rate(c)).append(" told");
        for (int what = 0; what <= 8; what++) {
            all.append(' ').append(k.told(c, what));
        }
        all.append(" mend ").append(k.mend(c, 0)).append(" kept ").append(k.kept(c, 0)).append(' ').append(k.kept(c, MINUTE / 60 - 1));
        all.append(" reckoned ").append(k.reckoned(c, 100000, 100000)).append(" regulated ").append(k.regulated(c, 100000));
        all.append(" round ").append(k.round(1 << c, 1)).append(" plan ").append(k.plan(1 << c, 10, 1, 0));
        all.append(" foretold ").append(k.foretold(c, 1500, 0)).append(' ').append(k.foretold(c, 1500, 6));
    }

    /** The call is refused by that kind of exception, and all stands as it did. */
    static void refused(String name, Class<?> kind, Act act) {
        ClockKeeper k = begun();
        String before = state(k);
        Due.refused(name, kind, () -> act.on(k));
        Due.same("the town behind " + name, state(k), before);
    }

    /** The call answers so, and all stands as it did. */
    static void answers(String name, long want, Act act) {
        ClockKeeper k = begun();
        String before = state(k);
        Due.is(name, ((Number) act.on(k)).longValue(), want);
        Due.same("the town behind " + name, state(k), before);
    }

    /** "No such CLOCK", by a number just below, just above and far away. */
    static void needsClock(String name, ClockAct act) {
        int[] numbers = {-1, NOBODY, 8, Integer.MIN_VALUE, Integer.MAX_VALUE};
        for (int clock : numbers) {
            refused(name + " of CLOCK " + clock, Due.ELEMENT, k -> act.on(k, clock));
        }
    }

    interface ClockAct {
        Object on(ClockKeeper k, int clock);
    }
}
