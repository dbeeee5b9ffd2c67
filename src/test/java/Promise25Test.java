/** Promise 25, plan: "PLAN: what 0 how many WINDINGS; 1 and so on which CLOCKS are wound at that time (1 now), as bits". */
public final class Promise25Test {
    private Promise25Test() {
    }

    public static void main(String[] args) {
        noneLeftWhenATimeComes();
        noneLeftBehindTheLast();
        standsAlready();
        fewestWindings();
        theFirstWay();
        atMostSoMany();
        theFirstOfAlikeWays();
        asBits();
        tenDays();
        allOfThemLate();
        oneMakesRoomForTheOther();
        runsOfADay();
        longRuns();
        changesNothing();
        lastMinute();
        bits();
        oneToFour();
        daysAndSoMany();
        anotherWhat();
        Due.end();
    }

    /** windings, then what is wound at each time, as many times as there are */
    private static void plan(String name, ClockKeeper k, int clocks, int many, int... due) {
        int days = due.length - 1;
        for (int what = 0; what <= days; what++) {
            Due.is(name + ": plan(" + clocks + ", " + days + ", " + many + ", " + what + ")", k.plan(clocks, days, many, what), due[what]);
        }
    }

    private static ClockKeeper left(int run, int left) {
        ClockKeeper k = Due.with("run " + run + ";");
        Due.pass(k, 1440 * run - left);
        Due.is("LEFT", k.told(0, 0), left);
        return k;
    }

    // "none may have LEFT 0 when a time has come (ahead of WINDING)"
    private static void noneLeftWhenATimeComes() {
        plan("2,881 are enough for two", left(3, 2881), 1, 1, 0, 0, 0);
        plan("2,880 are not", left(3, 2880), 1, 1, 1, 0, 1);
        plan("1,441 last till the second time", left(3, 1441), 1, 1, 1, 0, 1, 0);
        plan("1,440 don't", left(3, 1440), 1, 1, 1, 1, 0);
        plan("1 is enough now", left(3, 1), 1, 1, 1, 1, 0);
    }

    // "nor 1,440 MINUTES behind the last one"
    private static void noneLeftBehindTheLast() {
        plan("1,441", left(3, 1441), 1, 1, 0, 0);
        plan("1,440", left(3, 1440), 1, 1, 1, 1);
        plan("a winding now lasts for two times", left(3, 1), 1, 1, 1, 1, 0);
        plan("not for three", left(3, 1), 1, 1, 2, 1, 0, 1);
    }

    // "when a time has come": now is one
    private static void standsAlready() {
        plan("none LEFT", left(3, 0), 1, 2, -1, -1, -1);
        ClockKeeper k = new ClockKeeper();
        Due.clock(k, 0, 0, "run 1;");
        Due.clock(k, 0, 0, "run 5;");
        k.wait(1440);
        plan("one STANDS", k, 3, 2, -1, -1);
        plan("the other goes", k, 2, 2, 0, 0);
    }

    // "Of all ways the one with the fewest WINDINGS"
    private static void fewestWindings() {
        ClockKeeper k = Due.with("run 3;");
        plan("full", k, 1, 1, 0, 0);
        plan("full", k, 1, 1, 0, 0, 0);
        plan("full", k, 1, 1, 1, 0, 0, 1);
        plan("full", k, 1, 1, 1, 0, 0, 1, 0);
        plan("full", k, 1, 1, 2, 0, 0, 1, 0, 1);
        plan("full", k, 1, 1, 2, 0, 0, 1, 0, 1, 0);
        plan("full", k, 1, 1, 3, 0, 0, 1, 0, 1, 0, 1);
    }

    // "of these the first: time by time by the number whose bits are those that are wound": as late as can be
    private static void theFirstWay() {
        ClockKeeper k = new ClockKeeper();
        Due.clock(k, 0, 0, "run 4;");
        Due.clock(k, 0, 0, "run 4;");
        plan("both late", k, 3, 2, 2, 0, 0, 0, 3);
        plan("one of them a time earlier", k, 3, 1, 2, 0, 0, 1, 2);
        plan("one of them two times earlier, for what is behind", k, 3, 1, 2, 0, 0, 1, 2, 0);
        plan("seven times", k, 3, 1, 4, 0, 0, 1, 2, 0, 1, 2);
    }

    // "at most so many, at once"
    private static void atMostSoMany() {
        ClockKeeper k = new ClockKeeper();
        Due.clock(k, 0, 0, "run 2;");
        Due.clock(k, 0, 0, "run 2;");
        Due.clock(k, 0, 0, "run 2;");
        plan("two at once", k, 3, 2, 2, 0, 3);
        plan("one at once", k, 3, 1, -1, -1, -1);
        plan("two at once, for three times", k, 3, 2, 4, 0, 3, 3);
        plan("three, two at once", k, 7, 2, -1, -1, -1);
        plan("three for one time", k, 7, 1, 0, 0);
        k.wait(1440);
        plan("one of them, now", k, 4, 1, 1, 4);
        plan("two of them, now", k, 5, 2, 2, 5);
        plan("two of them, one at once", k, 5, 1, -1, -1);
        plan("three of them, two at once", k, 7, 2, -1, -1);
    }

    private static void theFirstOfAlikeWays() {
        ClockKeeper k = new ClockKeeper();
        for (int i = 0; i < 4; i++) {
            Due.clock(k, 0, 0, "run 3;");
        }
        plan("two of four earlier", k, 15, 2, 4, 0, 3, 12);
        plan("four times", k, 15, 2, 6, 0, 3, 12, 3);
        plan("one by one is too slow", k, 15, 1, -1, -1, -1, -1, -1);
        plan("three one by one, too", k, 14, 1, -1, -1, -1, -1);
        plan("two one by one", k, 10, 1, 2, 0, 2, 8);
        ClockKeeper long4 = new ClockKeeper();
        for (int i = 0; i < 4; i++) {
            Due.clock(long4, 0, 0, "run 4;");
        }
        plan("three, two at once: the least number earlier", long4, 7, 2, 3, 0, 0, 1, 6);
        plan("three, one at once: by their numbers", long4, 7, 1, 3, 0, 1, 2, 4);
        plan("three others", long4, 14, 1, 3, 0, 2, 4, 8);
        plan("four, two at once", long4, 15, 2, 4, 0, 0, 3, 12);
    }

    // "as bits": those of the CLOCKS' numbers
    private static void asBits() {
        ClockKeeper k = new ClockKeeper();
        for (int i = 0; i < 8; i++) {
            Due.clock(k, 0, 0, i % 2 == 0 ? "run 9;" : "run 2;");
        }
        plan("the eighth", k, 128, 1, 1, 0, 128);
        plan("the second and the eighth", k, 130, 2, 2, 0, 130);
        plan("with others that go on", k, 128 + 64 + 2 + 1, 2, 2, 0, 130);
        plan("one at once", k, 130, 1, -1, -1, -1);
    }

    private static void tenDays() {
        ClockKeeper k = Due.with("run 10;");
        plan("ten", k, 1, 1, 1, 0, 0, 0, 0, 0, 0, 0, 0, 0, 1);
        k.wait(1);
        plan("a MINUTE less", k, 1, 1, 1, 0, 0, 0, 0, 0, 0, 0, 0, 0, 1);
        k.wait(1439);
        plan("a DAY less", k, 1, 1, 1, 0, 0, 0, 0, 0, 0, 0, 0, 1, 0);
        ClockKeeper many = new ClockKeeper();
        for (int i = 0; i < 4; i++) {
            Due.clock(many, 0, 0, "run 3;");
        }
        plan("two by two", many, 15, 2, 18, 0, 3, 12, 3, 12, 3, 12, 3, 12, 3);
    }

    // four long runs that would all stop at one time: two are wound at the last time, two at the one ahead
    private static void allOfThemLate() {
        ClockKeeper k = new ClockKeeper();
        for (int i = 0; i < 4; i++) {
            Due.clock(k, 0, 0, "run 12;");
        }
        k.wait(1440);
        for (int last = 9; last >= 1; last--) {
            k.wait(1440);
            int[] due = new int[11];
            due[0] = 4;
            due[last] = 3;
            due[last + 1] = 12;
            plan("time " + last + " is the last", k, 15, 2, due);
        }
        k.wait(1440);
        Due.is("too late for all", k.plan(15, 10, 2, 0), -1);
        Due.is("three in time is too late as well", k.plan(14, 10, 2, 0), -1);
        Due.is("two in time", k.plan(12, 10, 2, 1), 12);
    }

    // the short run must be wound time by time, so the long one has to come ahead of it
    private static void oneMakesRoomForTheOther() {
        ClockKeeper k = new ClockKeeper();
        Due.clock(k, 0, 0, "run 2;");
        Due.clock(k, 0, 0, "run 31;");
        Due.pass(k, 29 * 1440);
        k.wind(0, 0);
        plan("one at once", k, 3, 1, 3, 2, 1, 1);
        plan("two at once", k, 3, 2, 3, 0, 3, 1);
        k.wait(1440);
        plan("too late for one at once", k, 3, 1, -1, -1, -1, -1);
    }

    // 1,440 MINUTES behind a WINDING none is LEFT of run 1
    private static void runsOfADay() {
        ClockKeeper k = Due.with("run 1;");
        plan("run 1", k, 1, 2, -1, -1);
        plan("run 1", k, 1, 2, -1, -1, -1);
        ClockKeeper two = Due.with("run 2;");
        plan("run 2", two, 1, 1, 0, 0);
        plan("run 2", two, 1, 1, 2, 0, 1, 1);
    }

    private static void longRuns() {
        ClockKeeper k = Due.with("run 31;");
        plan("run 31", k, 1, 1, 0, 0, 0, 0, 0, 0, 0, 0, 0, 0, 0);
        Due.pass(k, 21 * 1440 - 1);
        plan("14,401 are LEFT", k, 1, 1, 0, 0, 0, 0, 0, 0, 0, 0, 0, 0, 0);
        k.wait(1);
        plan("14,400 are LEFT", k, 1, 1, 1, 0, 0, 0, 0, 0, 0, 0, 0, 0, 1);
    }

    private static void changesNothing() {
        Town.answers("WINDINGS", 0, k -> k.plan(3, 10, 2, 0));
        Town.answers("no way", -1, k -> k.plan(7, 10, 2, 0));
        Town.answers("no way at the last time", -1, k -> k.plan(7, 10, 2, 10));
        ClockKeeper k = Due.with("run 2;");
        plan("asked", k, 1, 1, 2, 0, 1, 1);
        plan("asked otherwise", k, 1, 1, 0, 0);
        plan("asked again", k, 1, 1, 2, 0, 1, 1);
        k.wait(1440);
        plan("asked later", k, 1, 1, 1, 1);
    }

    // times that wouldn't come any more count as well
    private static void lastMinute() {
        ClockKeeper k = Due.with("run 31;");
        Due.pass(k, 100000 - 1440 * 31 + 1440);
        k.wind(0, 0);
        Due.pass(k, 1440 * 30);
        plan("at MINUTE 100,000", k, 1, 1, 1, 1, 0);
    }

    // "bits that tell no CLOCK"
    private static void bits() {
        int[] wrong = {0, 8, 9, 128, 256, 1 << 30, Integer.MIN_VALUE, -1, Integer.MAX_VALUE, Integer.MIN_VALUE + 1};
        for (int bits : wrong) {
            Town.refused("plan(" + bits + ", 1, 1, 0)", Due.ARGUMENT, k -> k.plan(bits, 1, 1, 0));
        }
    }

    private static ClockKeeper eight() {
        ClockKeeper k = new ClockKeeper();
        for (int i = 0; i < 8; i++) {
            k.clock(0, 0, 0);
        }
        return k;
    }

    // "or not 1 to 4"
    private static void oneToFour() {
        ClockKeeper k = eight();
        Due.is("one", k.plan(128, 10, 2, 0), 1);
        Due.is("four", k.plan(240, 10, 2, 0), 4);
        Due.refused("none", Due.ARGUMENT, () -> k.plan(0, 10, 2, 0));
        Due.refused("five", Due.ARGUMENT, () -> k.plan(31, 10, 2, 0));
        Due.refused("all eight", Due.ARGUMENT, () -> k.plan(255, 10, 2, 0));
        Due.refused("a ninth", Due.ARGUMENT, () -> k.plan(256, 10, 2, 0));
    }

    // "DAYS (1 to 10), so many at one time (1 or 2)"
    private static void daysAndSoMany() {
        int[] days = {0, -1, 11, Integer.MIN_VALUE, Integer.MAX_VALUE};
        for (int d : days) {
            Town.refused("plan(1, " + d + ", 1, 0)", Due.ARGUMENT, k -> k.plan(1, d, 1, 0));
        }
        int[] many = {0, -1, 3, Integer.MIN_VALUE, Integer.MAX_VALUE};
        for (int m : many) {
            Town.refused("plan(1, 1, " + m + ", 0)", Due.ARGUMENT, k -> k.plan(1, 1, m, 0));
        }
        ClockKeeper k = eight();
        Due.is("one DAY, one at once", k.plan(1, 1, 1, 0), 0);
        Due.is("ten DAYS, two at once", k.plan(1, 10, 2, 0), 1);
    }

    // "or another what."
    private static void anotherWhat() {
        int[] wrong = {-1, 4, Integer.MIN_VALUE, Integer.MAX_VALUE};
        for (int what : wrong) {
            Town.refused("plan(1, 3, 1, " + what + ")", Due.ARGUMENT, k -> k.plan(1, 3, 1, what));
        }
        ClockKeeper k = eight();
        Due.is("the only time", k.plan(1, 1, 1, 1), 0);
        Due.refused("a second of one", Due.ARGUMENT, () -> k.plan(1, 1, 1, 2));
        Due.is("the tenth", k.plan(1, 10, 1, 10), 0);
        Due.refused("an eleventh", Due.ARGUMENT, () -> k.plan(1, 10, 1, 11));
        ClockKeeper none = Due.with("run 1;");
        Due.refused("another time where there is no way", Due.ARGUMENT, () -> none.plan(1, 1, 1, 2));
    }
}
