/** Promise 15, date: "Its DATE and month are put right: 1; 0: they were." */
public final class Promise15Test {
    private Promise15Test() {
    }

    public static void main(String[] args) {
        theyWere();
        dateIsWrong();
        monthIsWrong();
        putRightByTheYear();
        dialStays();
        noSuchClock();
        Due.end();
    }

    // "0: they were."
    private static void theyWere() {
        Due.is("at first", Due.with("").date(0), 0);
        Town.answers("a true 29th of month 2", 0, k -> k.date(Town.WHEEL));
    }

    private static void dateIsWrong() {
        ClockKeeper k = Due.with("base -100;");
        k.wait(1440);
        Due.is("midnight hasn't come for it", k.told(0, 3), 1);
        Due.is("put right", k.date(0), 1);
        Due.is("DATE", k.told(0, 3), 2);
        Due.is("it is right", k.date(0), 0);
        k.wait(1);
        Due.is("then midnight comes", k.told(0, 3), 3);
        Due.is("put right", k.date(0), 1);
        Due.is("DATE", k.told(0, 3), 2);
    }

    // "and month": also if it is the month alone that is wrong
    private static void monthIsWrong() {
        ClockKeeper k = new ClockKeeper();
        Due.pass(k, 31 * 1440);
        Due.clock(k, 0, 0, "calendar months;");
        k.hands(0, -60, false);
        for (int i = 0; i < 28; i++) {
            k.wait(1);
            k.hands(0, -60, false);
        }
        Due.is("DATE", k.told(0, 3), 1);
        Due.is("month", k.told(0, 4), 3);
        Due.is("put right", k.date(0), 1);
        Due.is("DATE", k.told(0, 3), 1);
        Due.is("month", k.told(0, 4), 2);
        Due.is("it is right", k.date(0), 0);
    }

    // the year is LEAP as it is told now
    private static void putRightByTheYear() {
        ClockKeeper k = new ClockKeeper();
        Due.pass(k, 59 * 1440);
        k.clock(0, 0, 0);
        Due.is("the 1st of month 3", k.date(0), 0);
        k.leap(true);
        Due.is("it is the 29th of month 2", k.date(0), 1);
        Due.is("DATE", k.told(0, 3), 29);
        Due.is("month", k.told(0, 4), 2);
        k.leap(false);
        Due.is("no, it isn't", k.date(0), 1);
        Due.is("DATE", k.told(0, 3), 1);
        Due.is("month", k.told(0, 4), 3);
    }

    private static void dialStays() {
        ClockKeeper k = Due.with("run 1;");
        k.wait(3000);
        Due.is("one that STANDS", k.date(0), 1);
        Due.is("DATE", k.told(0, 3), 3);
        Due.is("DIAL stays", k.dial(0), 0);
    }

    private static void noSuchClock() {
        Town.needsClock("date", (k, clock) -> k.date(clock));
    }
}
