/** Promise 34, foretold: "FORETOLD: what all CLOCKS would be so many MINUTES (1 to 3,000) from now on, nothing being told." */
public final class Promise34Test {
    private static final String WORKS = "run 2;base 321;warm -20;wear 9;pull 4;penny 3;strike wheel 1,2,3,4,5,6,7,8,9,10,11,12;"
        + "strokes 300;quarters 1 2 3 4;silent 23-5 held;calendar months;";

    private Promise34Test() {
    }

    public static void main(String[] args) {
        comesTrue();
        oneMinute();
        changesNothing();
        whatIsToldAlready();
        placeOfARack();
        dates();
        standing();
        ringsRunOut();
        unheard();
        moreThanAreKept();
        minutes();
        lastMinute();
        anotherWhat();
        reasonsInOrder();
        noSuchClock();
        Due.end();
    }

    private static ClockKeeper begun() {
        ClockKeeper k = new ClockKeeper();
        Due.clock(k, 1, 1, "");
        Due.clock(k, 2, 2, WORKS);
        for (int i = 0; i < 30; i++) {
            k.warmth(i - 10);
        }
        k.wait(500);
        k.pennies(1, 7);
        return k;
    }

    // what is foretold is what then is
    private static void comesTrue() {
        int[] minutes = {1, 2, 39, 40, 41, 300, 939, 940, 941, 2380, 2381, 2999, 3000};
        for (int m : minutes) {
            ClockKeeper k = begun();
            int[] said = new int[7];
            for (int what = 0; what < 7; what++) {
                said[what] = k.foretold(1, m, what);
            }
            int before = k.count(5);
            k.wait(m);
            int[] is = {k.error(1), k.told(1, 0), k.told(1, 1), k.told(1, 2), k.told(1, 3), 0, 0};
            for (int i = 0; i < k.count(5) - before && i < 120; i++) {
                if (k.sounding(i, 0) == 1) {
                    is[5]++;
                    is[6] += k.sounding(i, 2) + k.sounding(i, 3);
                }
            }
            for (int what = 0; what < 7; what++) {
                Due.is("foretold(1, " + m + ", " + what + ")", said[what], is[what]);
            }
        }
    }

    // from now on up to then: neither a MINUTE more nor one less
    private static void oneMinute() {
        ClockKeeper k = Due.with("base 10;quarters 1 1 1 1;strike wheel 3,4;");
        k.wait(59);
        int[] due = {60 * 60 * 10 / 1000, 8 * 1440 - 60, 400 - 7, 1, 1, 1, 4};
        for (int what = 0; what < due.length; what++) {
            Due.is("foretold(0, 1, " + what + ")", k.foretold(0, 1, what), due[what]);
        }
        k.wait(1);
        Due.is("what sounded ahead isn't among them", k.foretold(0, 1, 5), 0);
        Due.is("nor its strokes", k.foretold(0, 1, 6), 0);
        Due.is("a MINUTE too few", k.foretold(0, 14, 5), 0);
        Due.is("enough", k.foretold(0, 15, 5), 1);
    }

    private static void changesNothing() {
        for (int what = 0; what <= 6; what++) {
            int part = what;
            ClockKeeper k = Town.begun();
            String before = Town.state(k);
            k.foretold(Town.WHEEL, 3000, part);
            k.foretold(Town.RACK, 3000, part);
            k.foretold(Town.STANDING, 3000, part);
            Due.same("the town behind foretold " + what, Town.state(k), before);
        }
        ClockKeeper k = Due.with("");
        k.foretold(0, 3000, 0);
        Due.is("no DIAL is kept", k.kept(0, 0), -1);
    }

    // "nothing being told": but WARMTH, PENNIES, and that the year is LEAP were
    private static void whatIsToldAlready() {
        ClockKeeper k = Due.with("warm 10;wear 20;penny 5;");
        k.warmth(15);
        k.warmth(25);
        k.pennies(0, 3);
        Due.is("PENNIES", k.foretold(0, 60, 0), 60 * 60 * 15 / 1000);
        Due.is("WARMTH of the next HOUR", k.foretold(0, 120, 0), 60 * 60 * (15 + 115) / 1000);
        Due.is("none of the third", k.foretold(0, 180, 0), 60 * 60 * (15 + 115 + 15) / 1000);
        Due.is("wear of the next DAY", k.foretold(0, 1500, 0), 60 * 60 * (15 * 24 + 100 - 5) / 1000);
        ClockKeeper oiled = Due.with("wear 100;");
        oiled.wait(5 * 1440);
        oiled.oil(0);
        int error = oiled.error(0);
        Due.is("no wear on the DAY it was OILED", oiled.foretold(0, 1440, 0), error);
        Due.is("wear of a DAY since then", oiled.foretold(0, 1500, 0), error - 360);
        ClockKeeper night = new ClockKeeper();
        Due.pass(night, 58 * 1440);
        Due.clock(night, 0, 0, "calendar leap;");
        Due.is("DATE", night.foretold(0, 1440, 4), 1);
        night.leap(true);
        Due.is("DATE, if LEAP", night.foretold(0, 1440, 4), 29);
    }

    // 3 PLACE: NONE of a rack, as told() tells it
    private static void placeOfARack() {
        Due.is("a rack", Due.with("").foretold(0, 60, 3), -1);
        ClockKeeper k = Due.with("strike wheel 1,1;");
        Due.is("a wheel", k.foretold(0, 59, 3), 0);
        Due.is("a wheel", k.foretold(0, 60, 3), 1);
        Due.is("round", k.foretold(0, 120, 3), 0);
    }

    private static void dates() {
        ClockKeeper k = new ClockKeeper();
        Due.pass(k, 30 * 1440);
        k.clock(0, 0, 0);
        Due.is("ahead of midnight", k.foretold(0, 1439, 4), 31);
        Due.is("at midnight", k.foretold(0, 1440, 4), 1);
        Due.is("two nights", k.foretold(0, 2880, 4), 2);
    }

    // a weight that runs out
    private static void standing() {
        ClockKeeper k = Due.with("run 1;");
        Due.is("one LEFT", k.foretold(0, 1439, 1), 1);
        Due.is("none LEFT", k.foretold(0, 1440, 1), 0);
        Due.is("none LEFT", k.foretold(0, 3000, 1), 0);
        Due.is("its error", k.foretold(0, 1441, 0), -60000);
        Due.is("SOUNDINGS", k.foretold(0, 3000, 5), 24);
        k.wait(1440);
        Due.is("one that STANDS", k.foretold(0, 3000, 5), 0);
    }

    private static void ringsRunOut() {
        ClockKeeper k = Due.with("strokes 4;strike rack 3;");
        Due.is("RINGS", k.foretold(0, 60, 2), 1);
        Due.is("RINGS", k.foretold(0, 3000, 2), 0);
        Due.is("SOUNDINGS", k.foretold(0, 3000, 5), 2);
        Due.is("their strokes", k.foretold(0, 3000, 6), 4);
    }

    // 5 "SOUNDINGS that would be heard of it", 6 "strokes of these"
    private static void unheard() {
        ClockKeeper k = Due.with("silent 1-2 held;quarters 0 0 0 2;");
        Due.is("held: none", k.foretold(0, 60, 5), 0);
        Due.is("no strokes", k.foretold(0, 60, 6), 0);
        Due.is("but RINGS go", k.foretold(0, 60, 2), 397);
        Due.is("then one", k.foretold(0, 120, 5), 1);
        Due.is("its strokes", k.foretold(0, 120, 6), 4);
        ClockKeeper stopped = Due.with("silent 1-2 stopped;");
        Due.is("stopped: none", stopped.foretold(0, 60, 5), 0);
        Due.is("RINGS stay", stopped.foretold(0, 60, 2), 400);
        ClockKeeper silence = Due.with("strike rack 0;");
        Due.is("without a stroke: none", silence.foretold(0, 600, 5), 0);
        ClockKeeper other = new ClockKeeper();
        other.clock(0, 0, 0);
        Due.clock(other, 0, 0, "strike rack 0;");
        Due.is("of that CLOCK alone", other.foretold(1, 600, 5), 0);
        Due.is("of the other one", other.foretold(0, 600, 5), 10);
    }

    private static void moreThanAreKept() {
        ClockKeeper k = Due.with("quarters 1 1 1 1;strike rack 4;strokes 2000;run 31;");
        Due.is("200 in 3,000 MINUTES", k.foretold(0, 3000, 5), 200);
        Due.is("their strokes", k.foretold(0, 3000, 6), 200 + 50 * 4);
        k.hands(0, 1, false);
        k.wait(3000);
        k.wait(14);
        Due.is("beside 200 that are kept", k.foretold(0, 3000, 5), 200);
    }

    // "IllegalArgumentException: MINUTES"
    private static void minutes() {
        int[] wrong = {-1, 0, 3001, Integer.MIN_VALUE, Integer.MAX_VALUE};
        for (int m : wrong) {
            Town.refused("foretold(0, " + m + ", 0)", Due.ARGUMENT, k -> k.foretold(0, m, 0));
        }
        ClockKeeper k = Due.with("");
        Due.is("1", k.foretold(0, 1, 1), 8 * 1440 - 1);
        Due.is("3,000", k.foretold(0, 3000, 1), 8 * 1440 - 3000);
    }

    // "IllegalStateException: MINUTE would be above 100,000."
    private static void lastMinute() {
        ClockKeeper k = Due.with("");
        Due.pass(k, 97000);
        Due.is("3,000 to the last", k.foretold(0, 3000, 1), 0);
        k.wait(1);
        Due.refused("3,000", Due.STATE, () -> k.foretold(0, 3000, 1));
        Due.is("2,999", k.foretold(0, 2999, 1), 0);
        k.wait(2998);
        Due.is("1", k.foretold(0, 1, 1), 0);
        Due.refused("2", Due.STATE, () -> k.foretold(0, 2, 1));
        k.wait(1);
        Due.refused("1", Due.STATE, () -> k.foretold(0, 1, 1));
        Due.is("MINUTE", k.count(0), 100000);
    }

    // "or another what"
    private static void anotherWhat() {
        int[] wrong = {-1, 7, 8, Integer.MIN_VALUE, Integer.MAX_VALUE};
        for (int what : wrong) {
            Town.refused("foretold(0, 1, " + what + ")", Due.ARGUMENT, k -> k.foretold(0, 1, what));
        }
    }

    // no such CLOCK, then MINUTES or what, then the last MINUTE
    private static void reasonsInOrder() {
        Town.refused("foretold(3, 0, 7)", Due.ELEMENT, k -> k.foretold(Town.NOBODY, 0, 7));
        ClockKeeper k = Due.with("");
        Due.pass(k, 100000);
        Due.refused("no such CLOCK", Due.ELEMENT, () -> k.foretold(1, 1, 0));
        Due.refused("no MINUTES", Due.ARGUMENT, () -> k.foretold(0, 0, 0));
        Due.refused("3,001 MINUTES", Due.ARGUMENT, () -> k.foretold(0, 3001, 0));
        Due.refused("another what", Due.ARGUMENT, () -> k.foretold(0, 1, 7));
        Due.refused("too late", Due.STATE, () -> k.foretold(0, 1, 0));
    }

    private static void noSuchClock() {
        Town.needsClock("foretold", (k, clock) -> k.foretold(clock, 1, 0));
    }
}
