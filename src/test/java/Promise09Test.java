/** Promise 9, error: "DIAL less the true time of the day, in thousandths of a second, the nearest way round ... then cut". */
public final class Promise09Test {
    private Promise09Test() {
    }

    public static void main(String[] args) {
        cutTowardNought();
        halfADay();
        nearestFirstThenCut();
        overMidnight();
        standing();
        noSuchClock();
        Due.end();
    }

    private static ClockKeeper pair(int millionths) {
        ClockKeeper k = new ClockKeeper();
        Due.clock(k, 0, 0, "base " + millionths + ";");
        Due.clock(k, 0, 0, "base -" + millionths + ";");
        k.wait(1);
        return k;
    }

    // "then cut (toward 0)"
    private static void cutTowardNought() {
        ClockKeeper little = pair(16);
        Due.is("960 millionths fast", little.error(0), 0);
        Due.is("960 millionths slow", little.error(1), 0);
        ClockKeeper more = pair(17);
        Due.is("1,020 millionths fast", more.error(0), 1);
        Due.is("1,020 millionths slow", more.error(1), -1);
        ClockKeeper two = pair(33);
        Due.is("1,980 millionths fast", two.error(0), 1);
        Due.is("1,980 millionths slow", two.error(1), -1);
        ClockKeeper whole = pair(50);
        Due.is("3,000 millionths fast", whole.error(0), 3);
        Due.is("3,000 millionths slow", whole.error(1), -3);
    }

    // "(-43,200,000 up to, not with, 43,200,000)"
    private static void halfADay() {
        ClockKeeper k = Due.with("");
        Due.is("right", k.error(0), 0);
        k.hands(0, 43199, false);
        Due.is("a second less than half a day", k.error(0), 43199000);
        k.hands(0, 1, false);
        Due.is("half a day", k.error(0), -43200000);
        k.hands(0, 1, false);
        Due.is("a second more", k.error(0), -43199000);
        k.hands(0, -1, false);
        k.hands(0, -43200, false);
        Due.is("right", k.error(0), 0);
        k.hands(0, -43200, false);
        Due.is("half a day back", k.error(0), -43200000);
        k.hands(0, -1, false);
        Due.is("a second more back", k.error(0), 43199000);
        ClockKeeper late = new ClockKeeper();
        late.wait(720);
        late.clock(0, 0, 0);
        Due.is("come at noon", late.error(0), -43200000);
        late.wait(1);
        late.clock(0, 0, 0);
        Due.is("come a MINUTE behind noon", late.error(1), 43200000 - 60000);
    }

    // "the nearest way round ... first, then cut"
    private static void nearestFirstThenCut() {
        ClockKeeper k = pair(1);
        k.hands(0, 43200, false);
        Due.is("60 millionths more than half a day", k.error(0), -43199999);
        k.hands(1, 43200, false);
        Due.is("60 millionths less than half a day", k.error(1), 43199999);
        k.hands(0, -43200, false);
        k.hands(0, -43200, false);
        Due.is("60 millionths less than half a day back", k.error(0), -43199999);
        k.hands(1, -43200, false);
        k.hands(1, -43200, false);
        Due.is("60 millionths more than half a day back", k.error(1), 43199999);
    }

    // "the true time of the day": MINUTES begin anew each DAY
    private static void overMidnight() {
        ClockKeeper k = new ClockKeeper();
        Due.clock(k, 0, 0, "");
        Due.clock(k, 0, 0, "base 10;");
        Due.clock(k, 0, 0, "base -10;");
        k.wait(1439);
        Due.is("ahead of midnight", k.error(0), 0);
        Due.is("fast", k.error(1), 863);
        Due.is("slow", k.error(2), -863);
        k.wait(1);
        Due.is("at midnight", k.error(0), 0);
        Due.is("fast", k.error(1), 864);
        Due.is("slow, on the day ahead still", k.error(2), -864);
        k.wait(1440);
        Due.is("a DAY later", k.error(0), 0);
        Due.is("fast", k.error(1), 1728);
        Due.is("slow", k.error(2), -1728);
    }

    private static void standing() {
        ClockKeeper k = Due.with("run 1;");
        k.wait(1440 + 719);
        Due.is("it STANDS for less than half a day", k.error(0), -43140000);
        k.wait(1);
        Due.is("for half a day", k.error(0), -43200000);
        k.wait(1);
        Due.is("for more", k.error(0), 43140000);
        k.wait(719);
        Due.is("for a day", k.error(0), 0);
    }

    private static void noSuchClock() {
        Town.needsClock("error", (k, clock) -> k.error(clock));
        Town.answers("error of the last one", -7200000, k -> k.error(Town.STANDING));
    }
}
