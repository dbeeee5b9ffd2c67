/** Promise 11, told: what a CLOCK shows and has left; with it the DATE at midnight and IN STEP of the sections 2 and 3. */
public final class Promise11Test {
    private static final String TWELVE = "1,2,3,4,5,6,7,8,9,10,11,12";
    private static final int[] MONTHS = {31, 28, 31, 30, 31, 30, 31, 31, 30, 31, 30, 31};

    private Promise11Test() {
    }

    public static void main(String[] args) {
        left();
        rings();
        place();
        date();
        wholeYears();
        datesBehindTheLast();
        leapNights();
        dateTurnsWithTheDial();
        stands();
        trueDates();
        monthAloneIsWrong();
        inStep();
        inStepOfTheHoursNext();
        strikesNext();
        strikesNextAtMidnight();
        anotherWhat();
        Due.end();
    }

    // 0 LEFT: "1,440 run when wound; full at first"; "LEFT one less" in a MINUTE; never below 0
    private static void left() {
        ClockKeeper k = Due.with("run 1;");
        Due.is("full", k.told(0, 0), 1440);
        k.wait(1);
        Due.is("one less", k.told(0, 0), 1439);
        k.wait(1438);
        Due.is("one", k.told(0, 0), 1);
        k.wait(1);
        Due.is("none", k.told(0, 0), 0);
        k.wait(1);
        Due.is("not less", k.told(0, 0), 0);
        k.wind(0, 0);
        Due.is("wound", k.told(0, 0), 1440);
        Due.is("the most", Due.with("run 31;").told(0, 0), 44640);
    }

    // 1 RINGS: "Each stroke takes one of RINGS; without any left there is none"
    private static void rings() {
        ClockKeeper k = Due.with("strokes 4;strike rack 3;");
        Due.is("full", k.told(0, 1), 4);
        k.wait(60);
        Due.is("three taken", k.told(0, 1), 1);
        k.wait(60);
        Due.is("not less than none", k.told(0, 1), 0);
        k.wait(60);
        Due.is("none", k.told(0, 1), 0);
        k.wind(0, 1);
        Due.is("wound", k.told(0, 1), 4);
    }

    // 2 PLACE (NONE: a rack): "0 at first"; "PLACE goes on by one, round"
    private static void place() {
        ClockKeeper k = Due.with("strike wheel 1,1,1;");
        int[] places = {0, 1, 2, 0, 1};
        for (int i = 0; i < places.length; i++) {
            Due.is("PLACE behind " + i, k.told(0, 2), places[i]);
            k.wait(60);
        }
        ClockKeeper single = Due.with("strike wheel 5;");
        single.wait(60);
        Due.is("PLACE of a wheel of one", single.told(0, 2), 0);
        ClockKeeper most = Due.with("strike wheel 0" + ",0".repeat(23) + ";");
        most.wait(23 * 60);
        Due.is("the last PLACE", most.told(0, 2), 23);
        most.wait(60);
        Due.is("round", most.told(0, 2), 0);
        Due.is("a rack", Due.with("").told(0, 2), -1);
        Due.is("a rack behind a wheel", Due.with("strike wheel 1;strike rack 1;").told(0, 2), -1);
    }

    private static void shows(String when, ClockKeeper k, int clock, int date, int month) {
        Due.is(when + ": DATE of CLOCK " + clock, k.told(clock, 3), date);
        Due.is(when + ": month of CLOCK " + clock, k.told(clock, 4), month);
    }

    // 3 the DATE, 4 the month: "one more; plain: behind 31 it is 1 (of the next month)", months, leap
    private static void date() {
        ClockKeeper k = new ClockKeeper();
        k.leap(true);
        String[] calendars = {"plain", "months", "leap"};
        for (String calendar : calendars) {
            Due.clock(k, 0, 0, "run 31;calendar " + calendar + ";");
        }
        int[] days = {0, 1, 30, 31, 58, 59, 60, 61, 62};
        int[][] dates = {{1, 1}, {2, 1}, {31, 1}, {1, 2}, {28, 2}, {29, 2}, {30, 2}, {31, 2}, {1, 3}};
        int[][] months = {{1, 1}, {2, 1}, {31, 1}, {1, 2}, {28, 2}, {1, 3}, {2, 3}, {3, 3}, {4, 3}};
        int[][] leaps = {{1, 1}, {2, 1}, {31, 1}, {1, 2}, {28, 2}, {29, 2}, {1, 3}, {2, 3}, {3, 3}};
        for (int i = 0; i < days.length; i++) {
            Due.pass(k, days[i] * 1440 - k.count(0));
            k.wind(0, 0);
            k.wind(1, 0);
            k.wind(2, 0);
            shows("DAY " + days[i], k, 0, dates[i][0], dates[i][1]);
            shows("DAY " + days[i], k, 1, months[i][0], months[i][1]);
            shows("DAY " + days[i], k, 2, leaps[i][0], leaps[i][1]);
        }
    }

    /** Midnight comes again each time that the hands were put back; more calls than are promised (512). */
    private static void wholeYears() {
        String[] calendars = {"plain", "months", "leap"};
        for (String calendar : calendars) {
            ClockKeeper k = Due.with("run 31;calendar " + calendar + ";");
            k.leap(true);
            k.hands(0, -60, false);
            for (int month = 1; month <= 14; month++) {
                int inYear = (month - 1) % 12 + 1;
                int last = inYear == 2 && calendar.equals("leap") ? 29 : calendar.equals("plain") ? 31 : MONTHS[inYear - 1];
                for (int date = 1; date <= last; date++) {
                    shows(calendar, k, 0, date, inYear);
                    k.wait(1);
                    k.hands(0, -60, false);
                }
            }
        }
    }

    // "months: behind the last one of its month": also from a DATE that the month doesn't have
    private static void datesBehindTheLast() {
        ClockKeeper k = new ClockKeeper();
        Due.clock(k, 0, 0, "run 31;");
        Due.pass(k, 30 * 1440);
        k.wind(0, 0);
        Due.pass(k, 30 * 1440 + 1439);
        shows("plain", k, 0, 30, 2);
        Due.refit(k, 0, "run 31;calendar months;");
        shows("refitted", k, 0, 30, 2);
        k.wait(1);
        shows("behind a 30th of month 2", k, 0, 1, 3);
        ClockKeeper leap = new ClockKeeper();
        leap.leap(true);
        Due.pass(leap, 59 * 1440 + 720);
        Due.clock(leap, 0, 0, "calendar months;");
        Due.clock(leap, 0, 0, "calendar leap;");
        Due.clock(leap, 0, 0, "calendar plain;");
        shows("a true 29th of month 2", leap, 0, 29, 2);
        leap.wait(1440);
        shows("months", leap, 0, 1, 3);
        shows("leap", leap, 1, 1, 3);
        shows("plain", leap, 2, 30, 2);
    }

    // "leap: 29 in the 2nd, if the year is LEAP", at that midnight
    private static void leapNights() {
        boolean[] years = {false, true};
        for (boolean year : years) {
            for (boolean night : years) {
                ClockKeeper k = new ClockKeeper();
                k.leap(year);
                Due.pass(k, 58 * 1440 + 720);
                Due.clock(k, 0, 0, "calendar leap;");
                k.hands(0, 43200, false);
                k.leap(night);
                k.wait(719);
                shows("ahead of midnight", k, 0, 28, 2);
                k.wait(1);
                k.leap(year);
                shows("LEAP " + night + " that night", k, 0, night ? 29 : 1, night ? 2 : 3);
            }
        }
        ClockKeeper taken = new ClockKeeper();
        taken.leap(true);
        Due.pass(taken, 59 * 1440);
        Due.clock(taken, 0, 0, "calendar leap;");
        taken.leap(false);
        taken.wait(1440);
        shows("a 29th that isn't LEAP any more", taken, 0, 1, 3);
    }

    // "At midnight": as the DIAL passes it, whatever the true time is
    private static void dateTurnsWithTheDial() {
        ClockKeeper k = new ClockKeeper();
        Due.clock(k, 0, 0, "base 100;");
        Due.clock(k, 0, 0, "");
        Due.clock(k, 0, 0, "base -100;");
        k.wait(1439);
        shows("not yet", k, 0, 1, 1);
        k.wait(1);
        shows("passed", k, 0, 2, 1);
        shows("come to", k, 1, 2, 1);
        shows("not yet", k, 2, 1, 1);
        k.wait(1);
        shows("passed", k, 2, 2, 1);
        shows("once", k, 1, 2, 1);
        ClockKeeper stopped = Due.with("silent 23-1 stopped;strokes 1;");
        stopped.wait(1440);
        shows("a stopped night", stopped, 0, 2, 1);
    }

    // 5 "whether it STANDS (1, 0)"; "It STANDS, if LEFT is 0."
    private static void stands() {
        ClockKeeper k = Due.with("run 2;");
        Due.is("full", k.told(0, 5), 0);
        k.wait(2879);
        Due.is("one LEFT", k.told(0, 5), 0);
        k.wait(1);
        Due.is("none LEFT", k.told(0, 5), 1);
        k.wind(0, 1);
        Due.is("the other weight is wound", k.told(0, 5), 1);
        k.wind(0, 0);
        Due.is("wound", k.told(0, 5), 0);
    }

    // 6 "whether its DATE and month are true (1, 0)"
    private static void trueDates() {
        ClockKeeper k = new ClockKeeper();
        Due.clock(k, 0, 0, "base 100;");
        Due.clock(k, 0, 0, "base -100;");
        k.wait(1439);
        Due.is("a fast one, ahead of midnight", k.told(0, 6), 1);
        k.wait(1);
        Due.is("a fast one, behind it", k.told(0, 6), 1);
        Due.is("a slow one, for a MINUTE not", k.told(1, 6), 0);
        k.wait(1);
        Due.is("then it is", k.told(1, 6), 1);
        ClockKeeper ends = new ClockKeeper();
        Due.pass(ends, 58 * 1440 - 1);
        Due.clock(ends, 0, 0, "calendar plain;");
        Due.clock(ends, 0, 0, "calendar months;");
        ends.hands(0, -60, false);
        ends.hands(1, -60, false);
        ends.wait(1);
        Due.is("the 28th", ends.told(0, 6), 1);
        ends.wait(1440);
        Due.is("plain on the 29th of month 2", ends.told(0, 6), 0);
        Due.is("months on the 1st", ends.told(1, 6), 1);
    }

    // "its DATE and month": the DATE alone is not enough
    private static void monthAloneIsWrong() {
        ClockKeeper k = new ClockKeeper();
        Due.pass(k, 31 * 1440);
        Due.clock(k, 0, 0, "calendar months;");
        k.hands(0, -60, false);
        for (int i = 0; i < 28; i++) {
            Due.is("behind " + i + " midnights", k.told(0, 6), i == 0 ? 1 : 0);
            k.wait(1);
            k.hands(0, -60, false);
        }
        shows("28 midnights later", k, 0, 1, 3);
        Due.is("the DATE is true, the month isn't", k.told(0, 6), 0);
        Due.is("the TRUE DATE", k.count(7), 1);
        Due.is("the true month", k.count(8), 2);
    }

    private static int step(String wheel) {
        return Due.with("strike wheel " + wheel + ";").told(0, 7);
    }

    // 7 "whether it is IN STEP (1, 0; NONE: a rack)": "for each of the 24 hours", "round"
    private static void inStep() {
        Due.is("a wheel of 12", step(TWELVE), 1);
        Due.is("a wheel of 24", step(TWELVE + "," + TWELVE), 1);
        Due.is("wrong at the first", step("12,2,3,4,5,6,7,8,9,10,11,12"), 0);
        Due.is("wrong at the last of 12", step("1,2,3,4,5,6,7,8,9,10,11,0"), 0);
        Due.is("wrong at the first of 24 alone", step("0,2,3,4,5,6,7,8,9,10,11,12," + TWELVE), 0);
        Due.is("wrong at the 24th alone", step(TWELVE + ",1,2,3,4,5,6,7,8,9,10,11,1"), 0);
        Due.is("wrong at the 13th alone", step(TWELVE + ",0,2,3,4,5,6,7,8,9,10,11,12"), 0);
        Due.is("a wheel of 11", step("1,2,3,4,5,6,7,8,9,10,11"), 0);
        Due.is("a wheel of 13", step(TWELVE + ",1"), 0);
        Due.is("a wheel of 23", step(TWELVE + ",1,2,3,4,5,6,7,8,9,10,11"), 0);
        Due.is("a wheel of one", step("1"), 0);
        Due.is("a rack", Due.with("").told(0, 7), -1);
        Due.is("SILENT or not", Due.with("silent 0-23 stopped;strike wheel " + TWELVE + ";").told(0, 7), 1);
        ClockKeeper spent = Due.with("strokes 1;strike wheel " + TWELVE + ";");
        spent.wait(60);
        Due.is("without RINGS", spent.told(0, 7), 1);
    }

    // "that its DIAL comes to next": one that it stands at isn't among them
    private static void inStepOfTheHoursNext() {
        ClockKeeper k = Due.with("strike wheel " + TWELVE + ";");
        k.hands(0, 3599, false);
        Due.is("a second ahead of hour 1", k.told(0, 7), 1);
        k.hands(0, 1, false);
        Due.is("at hour 1", k.told(0, 7), 0);
        k.trip(0, true);
        Due.is("at hour 1, from 2 on", k.told(0, 7), 1);
        k.hands(0, -3601, false);
        Due.is("a second ahead of midnight", k.told(0, 7), 0);
        k.trip(0, false);
        k.trip(0, false);
        Due.is("from 12 on", k.told(0, 7), 1);
        k.wait(1);
        Due.is("past midnight, from 1 on", k.told(0, 7), 1);
        ClockKeeper half = Due.with("strike wheel " + TWELVE + ";");
        half.hands(0, 43200, false);
        Due.is("at noon from 1 on", half.told(0, 7), 1);
        half.wait(719);
        Due.is("ahead of midnight", half.told(0, 7), 1);
        half.wait(1);
        Due.is("at midnight", half.told(0, 7), 1);
    }

    // 8 "how many strokes it would STRIKE at the next hour if RINGS are enough (SILENT or not)"
    private static void strikesNext() {
        ClockKeeper k = Due.with("strike rack hour;strokes 1;silent 0-23 stopped;quarters 16 16 16 16;");
        k.wait(59);
        Due.is("ahead of hour 1", k.told(0, 8), 1);
        k.wait(1);
        Due.is("at hour 1", k.told(0, 8), 2);
        k.wait(22 * 60);
        Due.is("at hour 23", k.told(0, 8), 0);
        ClockKeeper none = Due.with("strokes 1;strike wheel 1,12;");
        none.wait(60);
        Due.is("no RINGS", none.told(0, 1), 0);
        Due.is("a wheel's N", none.told(0, 8), 12);
        ClockKeeper zero = Due.with("strike wheel 0;");
        Due.is("an N of 0", zero.told(0, 8), 0);
        Due.is("more than 24", Due.with("strike rack 25;").told(0, 8), 24);
        Due.is("less than 0", Due.with("strike rack 0-1;").told(0, 8), 0);
        ClockKeeper standing = Due.with("run 1;strike rack hour+7;");
        standing.wait(1441);
        Due.is("one that STANDS", standing.told(0, 8), 8);
    }

    // "At midnight first the DATE": the STRIKE of hour 0 is by the DATE and month behind it
    private static void strikesNextAtMidnight() {
        ClockKeeper k = new ClockKeeper();
        Due.pass(k, 30 * 1440 + 1379);
        Due.clock(k, 0, 0, "strike rack date%10*2+month*3;calendar months;");
        k.hands(0, -3660, false);
        Due.is("ahead of hour 23", k.told(0, 8), 1 * 2 + 1 * 3);
        k.hands(0, 3600, false);
        Due.is("ahead of hour 0", k.told(0, 8), 1 * 2 + 2 * 3);
        Due.is("DATE as yet", k.told(0, 3), 31);
        k.wait(1);
        Due.is("it struck so", k.sounding(0, 3), 8);
        ClockKeeper leap = new ClockKeeper();
        Due.pass(leap, 58 * 1440);
        Due.clock(leap, 0, 0, "strike rack date;calendar leap;");
        leap.hands(0, -60, false);
        Due.is("behind the 28th", leap.told(0, 8), 1);
        leap.leap(true);
        Due.is("behind the 28th, if LEAP", leap.told(0, 8), 24);
    }

    // "IllegalArgumentException: another what."; no such CLOCK ahead of it
    private static void anotherWhat() {
        int[] wrong = {-1, 9, Integer.MIN_VALUE, Integer.MAX_VALUE};
        for (int what : wrong) {
            Town.refused("told(0, " + what + ")", Due.ARGUMENT, k -> k.told(0, what));
        }
        Town.refused("told(3, 9)", Due.ELEMENT, k -> k.told(Town.NOBODY, 9));
        Town.needsClock("told", (k, clock) -> k.told(clock, 0));
        Town.answers("told(2, 0)", 0, k -> k.told(Town.STANDING, 0));
        Town.answers("told(0, 8)", 11, k -> k.told(Town.WHEEL, 8));
    }
}
