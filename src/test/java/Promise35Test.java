/** Promise 35, count: how many of each there are, and the TRUE DATE. */
public final class Promise35Test {
    private Promise35Test() {
    }

    public static void main(String[] args) {
        minutes();
        clocks();
        hoursOfWarmth();
        readings();
        words();
        soundingsSoFar();
        bytes();
        trueDate();
        trueDateOfALeapYear();
        others();
        Due.end();
    }

    // 0 MINUTE
    private static void minutes() {
        ClockKeeper k = new ClockKeeper();
        Due.is("at first", k.count(0), 0);
        k.wait(1);
        Due.is("one", k.count(0), 1);
        Due.pass(k, 99999);
        Due.is("the last one", k.count(0), 100000);
    }

    // 1 CLOCKS
    private static void clocks() {
        ClockKeeper k = new ClockKeeper();
        for (int i = 0; i <= 9; i++) {
            Due.is("CLOCKS", k.count(1), Math.min(i, 8));
            k.clock(0, 0, 0);
        }
    }

    // 2 HOURS of WARMTH: as far as it is told, whatever HOUR it is
    private static void hoursOfWarmth() {
        ClockKeeper k = new ClockKeeper();
        k.wait(600);
        Due.is("none", k.count(2), 0);
        k.warmth(50);
        k.warmth(-30);
        Due.is("two", k.count(2), 2);
        k.wait(600);
        Due.is("two still", k.count(2), 2);
    }

    // 3 READINGS
    private static void readings() {
        ClockKeeper k = Due.with("");
        for (int i = 0; i <= 101; i++) {
            Due.is("READINGS", k.count(3), Math.min(i, 100));
            k.read(0, 0, i);
        }
    }

    // 4 words of the LAW
    private static void words() {
        ClockKeeper k = Due.with("");
        for (int i = 0; i <= 41; i++) {
            Due.is("words", k.count(4), Math.min(i, 40));
            k.law(0, i);
        }
    }

    // 5 "SOUNDINGS so far": more than are kept; those that nobody hears are none
    private static void soundingsSoFar() {
        ClockKeeper k = new ClockKeeper();
        Due.clock(k, 0, 0, "strokes 2000;quarters 1 1 1 1;strike rack 0;");
        Due.clock(k, 0, 0, "silent 0-23 held;quarters 1 1 1 1;strike rack 0;");
        k.wait(200 * 15);
        Due.is("200, and hour 23 twice of the other one", k.count(5), 200 + 8);
        k.hands(0, 43200, true);
        Due.is("none under the hands", k.count(5), 208);
        k.wait(15);
        Due.is("one more", k.count(5), 209);
        Due.is("200 are kept", k.sounding(199, 1) >= 0 ? 1 : 0, 1);
        Due.is("no more", k.sounding(200, 1), -1);
    }

    // 6 bytes of the TAPE
    private static void bytes() {
        ClockKeeper k = Due.with("");
        for (int i = 0; i <= 21; i++) {
            Due.is("bytes", k.count(6), Math.min(20 * i, 400));
            k.feed(0x20202020, 0x20202020, 0x20202020, 0x20202020, 0x20202020);
        }
        k.refit(0, 0);
        Due.is("none", k.count(6), 0);
    }

    private static void date(int day, ClockKeeper k, int date, int month) {
        Due.pass(k, 1440 * day - k.count(0));
        Due.is("DATE of DAY " + day, k.count(7), date);
        Due.is("month of DAY " + day, k.count(8), month);
    }

    // "DAY: MINUTE by 1,440, cut"; "DAY 0 is the 1st of month 1; months have 31, 28, 31"
    private static void trueDate() {
        ClockKeeper k = new ClockKeeper();
        date(0, k, 1, 1);
        k.wait(1439);
        Due.is("the last MINUTE of DAY 0", k.count(7), 1);
        date(1, k, 2, 1);
        date(30, k, 31, 1);
        k.wait(1439);
        Due.is("the last MINUTE of month 1", k.count(8), 1);
        date(31, k, 1, 2);
        date(58, k, 28, 2);
        date(59, k, 1, 3);
        date(69, k, 11, 3);
        Due.pass(k, 640);
        Due.is("the last DATE", k.count(7), 11);
        Due.is("the last month", k.count(8), 3);
    }

    // "(28 is 29, if the year is LEAP ...)"
    private static void trueDateOfALeapYear() {
        ClockKeeper k = new ClockKeeper();
        k.leap(true);
        date(30, k, 31, 1);
        date(31, k, 1, 2);
        date(58, k, 28, 2);
        date(59, k, 29, 2);
        date(60, k, 1, 3);
        date(69, k, 10, 3);
    }

    // "NONE for others."
    private static void others() {
        int[] others = {-1, 9, 10, Integer.MIN_VALUE, Integer.MAX_VALUE};
        for (int what : others) {
            Town.answers("count(" + what + ")", -1, k -> k.count(what));
        }
    }
}
