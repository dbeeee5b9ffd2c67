/** Promises 34 and 35: what is FORETOLD, and what is counted. */
public final class ForetoldTest {
    private static final String WORKS = "run 2;base 321;warm -20;wear 9;pull 4;penny 3;strike wheel 1,2,3,4,5,6,7,8,9,10,11,12;"
        + "strokes 300;quarters 1 2 3 4;silent 23-5 held;calendar months;";

    private ForetoldTest() {
    }

    public static void main(String[] args) {
        comesTrue();
        changesNothing();
        ofARack();
        ofOneBehindAnother();
        unheard();
        refuses();
        counts();
        Due.end();
    }

    private static ClockKeeper begun() {
        ClockKeeper k = new ClockKeeper();
        Due.clock(k, 1, 1, "");
        Due.clock(k, 2, 2, WORKS);
        for (int i = 0; i < 30; i++) {
            k.warmth(i - 10);
        }
        k.wait(500);
        k.pennies(1, 7);
        return k;
    }

    private static void comesTrue() {
        int[] minutes = {1, 59, 60, 300, 939, 940, 941, 2380, 2381, 3000};
        for (int m : minutes) {
            ClockKeeper k = begun();
            int[] said = new int[7];
            for (int what = 0; what < 7; what++) {
                said[what] = k.foretold(1, m, what);
            }
            int before = k.count(5);
            k.wait(m);
            Due.is("error in " + m, said[0], k.error(1));
            Due.is("LEFT in " + m, said[1], k.told(1, 0));
            Due.is("RINGS in " + m, said[2], k.told(1, 1));
            Due.is("PLACE in " + m, said[3], k.told(1, 2));
            Due.is("DATE in " + m, said[4], k.told(1, 3));
            int times = 0;
            int strokes = 0;
            for (int i = 0; i < k.count(5) - before; i++) {
                if (k.sounding(i, 0) == 1) {
                    times++;
                    strokes += k.sounding(i, 2) + k.sounding(i, 3);
                }
            }
            Due.is("SOUNDINGS till " + m, said[5], times);
            Due.is("strokes till " + m, said[6], strokes);
        }
    }

    private static void changesNothing() {
        ClockKeeper k = begun();
        int[] before = {k.dial(1), k.told(1, 0), k.told(1, 1), k.told(1, 2), k.told(1, 3), k.count(0), k.count(5), k.kept(1, 20)};
        k.foretold(1, 3000, 0);
        int[] behind = {k.dial(1), k.told(1, 0), k.told(1, 1), k.told(1, 2), k.told(1, 3), k.count(0), k.count(5), k.kept(1, 20)};
        for (int i = 0; i < before.length; i++) {
            Due.is("state " + i, behind[i], before[i]);
        }
    }

    private static void ofARack() {
        ClockKeeper k = Due.with("");
        Due.is("PLACE of a rack", k.foretold(0, 60, 3), -1);
        Due.is("more than 200 SOUNDINGS", loud().foretold(0, 3000, 5), 200);
        Due.is("strokes of them", loud().foretold(0, 3000, 6), 50 * 5 + 150);
    }

    private static ClockKeeper loud() {
        return Due.with("quarters 1 1 1 1;strike rack 4;strokes 2000;run 31;");
    }

    private static void ofOneBehindAnother() {
        ClockKeeper k = new ClockKeeper();
        Due.clock(k, 0, 0, "calendar months;strike rack month;");
        Due.pass(k, 58 * 1440);
        Due.clock(k, 0, 0, "calendar months;strike rack month;wear 500;");
        Due.is("1st of month 2", k.foretold(0, 3000, 4), 9);
        Due.is("28th of month 2", k.foretold(1, 1440, 4), 1);
        Due.is("strokes by the month", k.foretold(1, 1500, 6), 23 * 2 + 3);
        Due.is("OILED when it came", k.foretold(1, 1440, 0), 0);
    }

    private static void unheard() {
        ClockKeeper k = Due.with("silent 1-2 held;");
        Due.is("held: unheard", k.foretold(0, 60, 5), 0);
        Due.is("no strokes", k.foretold(0, 60, 6), 0);
        Due.is("but RINGS go", k.foretold(0, 60, 2), 399);
        Due.is("then it is heard", k.foretold(0, 120, 5), 1);
        Due.is("two strokes", k.foretold(0, 120, 6), 2);
    }

    private static void refuses() {
        ClockKeeper k = Due.with("");
        Due.refused("no MINUTES", Due.ARGUMENT, () -> k.foretold(0, 0, 0));
        Due.refused("3001", Due.ARGUMENT, () -> k.foretold(0, 3001, 0));
        Due.refused("what -1", Due.ARGUMENT, () -> k.foretold(0, 1, -1));
        Due.refused("what 7", Due.ARGUMENT, () -> k.foretold(0, 1, 7));
        Due.refused("no such clock", Due.ELEMENT, () -> k.foretold(1, 0, 7));
        Due.pass(k, 97000);
        Due.is("up to the last MINUTE", k.foretold(0, 3000, 1), 0);
        k.wait(1);
        Due.refused("above it", Due.STATE, () -> k.foretold(0, 3000, 1));
        Due.refused("above it, with another what", Due.ARGUMENT, () -> k.foretold(0, 3000, 7));
        Due.is("up to it", k.foretold(0, 2999, 1), 0);
    }

    private static void counts() {
        ClockKeeper k = begun();
        k.read(0, 1, 1);
        k.read(0, 2, 1);
        k.law(0, 0);
        k.feed(0, 0, 0, 0, 0);
        int[] due = {500, 2, 30, 2, 1, k.count(5), 20, 1, 1};
        for (int what = 0; what < due.length; what++) {
            Due.is("count(" + what + ")", k.count(what), due[what]);
        }
        Due.is("SOUNDINGS", k.count(5), 8 + 14);
        Due.is("count(9)", k.count(9), -1);
        Due.is("count(-1)", k.count(-1), -1);
        Due.is("count of the least", k.count(Integer.MIN_VALUE), -1);
        ClockKeeper empty = new ClockKeeper();
        Due.pass(empty, 58 * 1440);
        Due.is("28th", empty.count(7), 28);
        empty.wait(1440);
        Due.is("1st", empty.count(7), 1);
        Due.is("of month 3", empty.count(8), 3);
        empty.leap(true);
        Due.is("29th", empty.count(7), 29);
        Due.is("of month 2", empty.count(8), 2);
    }
}
