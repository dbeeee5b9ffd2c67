/** Promise 3, leap: "Whether the year is LEAP from now on: whether it was." */
public final class Promise03Test {
    private Promise03Test() {
    }

    public static void main(String[] args) {
        whetherItWas();
        theTrueDate();
        alsoForWhatIsPast();
        onTheClocks();
        Due.end();
    }

    private static void leap(ClockKeeper k, boolean is, boolean was) {
        Due.is("leap(" + is + ")", k.leap(is) ? 1 : 0, was ? 1 : 0);
    }

    // ": whether it was."
    private static void whetherItWas() {
        ClockKeeper k = new ClockKeeper();
        leap(k, false, false);
        leap(k, true, false);
        leap(k, true, true);
        k.wait(10000);
        leap(k, false, true);
        leap(k, false, false);
    }

    private static void date(String when, ClockKeeper k, int date, int month) {
        Due.is(when + ": DATE", k.count(7), date);
        Due.is(when + ": month", k.count(8), month);
    }

    // "28 is 29, if the year is LEAP"
    private static void theTrueDate() {
        ClockKeeper k = new ClockKeeper();
        k.leap(true);
        Due.pass(k, 58 * 1440);
        date("DAY 58", k, 28, 2);
        k.wait(1440);
        date("DAY 59", k, 29, 2);
        k.wait(1439);
        date("its last MINUTE", k, 29, 2);
        k.wait(1);
        date("DAY 60", k, 1, 3);
        Due.pass(k, 9 * 1440);
        date("DAY 69", k, 10, 3);
    }

    // "as it is told now, also for what is past"
    private static void alsoForWhatIsPast() {
        ClockKeeper k = new ClockKeeper();
        Due.pass(k, 58 * 1440);
        date("DAY 58", k, 28, 2);
        k.leap(true);
        date("DAY 58 of a LEAP year", k, 28, 2);
        k.leap(false);
        k.wait(1440);
        date("DAY 59", k, 1, 3);
        k.leap(true);
        date("DAY 59 of a LEAP year", k, 29, 2);
        k.wait(1440);
        date("DAY 60 of a LEAP year", k, 1, 3);
        k.leap(false);
        date("DAY 60", k, 2, 3);
    }

    // "from now on": what a CLOCK shows it goes on from, and whether that is true is asked now
    private static void onTheClocks() {
        ClockKeeper k = new ClockKeeper();
        Due.pass(k, 59 * 1440 - 1);
        Due.clock(k, 0, 0, "calendar leap;");
        k.hands(0, -60, false);
        k.wait(1);
        Due.is("midnight of a year that isn't LEAP", k.told(0, 3), 1);
        Due.is("that is true", k.told(0, 6), 1);
        k.leap(true);
        Due.is("DATE stays", k.told(0, 3), 1);
        Due.is("month stays", k.told(0, 4), 3);
        Due.is("it isn't true now", k.told(0, 6), 0);
        Due.is("it is put right", k.date(0), 1);
        Due.is("DATE", k.told(0, 3), 29);
        Due.is("month", k.told(0, 4), 2);
    }
}
