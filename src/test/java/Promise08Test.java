/** Promise 8, dial: "DIAL of a CLOCK, in thousandths of a second, cut." */
public final class Promise08Test {
    private Promise08Test() {
    }

    public static void main(String[] args) {
        cut();
        midnight();
        nearlyMidnight();
        standing();
        lateOnes();
        noSuchClock();
        Due.end();
    }

    // "in thousandths of a second, cut"; "60,000,000 and 60 times RATE further"
    private static void cut() {
        ClockKeeper k = new ClockKeeper();
        Due.clock(k, 0, 0, "base 16;");
        Due.clock(k, 0, 0, "base 17;");
        Due.clock(k, 0, 0, "base -1;");
        Due.clock(k, 0, 0, "base 500;");
        Due.clock(k, 0, 0, "base -500;");
        k.wait(1);
        Due.is("960 millionths more", k.dial(0), 60000);
        Due.is("1,020 millionths more", k.dial(1), 60001);
        Due.is("60 millionths less", k.dial(2), 59999);
        Due.is("fastest", k.dial(3), 60030);
        Due.is("slowest", k.dial(4), 59970);
        k.wait(1);
        Due.is("1,920 millionths more", k.dial(0), 120001);
        Due.is("2,040 millionths more", k.dial(1), 120002);
        Due.is("120 millionths less", k.dial(2), 119999);
    }

    // "millionths of a second from its midnight on, below 86,400,000,000 (... what goes on behind that begins at 0)"
    private static void midnight() {
        ClockKeeper k = new ClockKeeper();
        Due.clock(k, 0, 0, "");
        Due.clock(k, 0, 0, "base 500;");
        Due.clock(k, 0, 0, "base -500;");
        k.wait(1439);
        Due.is("a MINUTE ahead", k.dial(0), 86340000);
        Due.is("17 seconds ahead", k.dial(1), 1439 * 60030);
        k.wait(1);
        Due.is("at midnight", k.dial(0), 0);
        Due.is("behind midnight", k.dial(1), 43200);
        Due.is("not yet", k.dial(2), 86400000 - 43200);
        k.wait(1);
        Due.is("a MINUTE behind", k.dial(0), 60000);
        Due.is("behind midnight", k.dial(2), 16770);
    }

    // the most that a DIAL shows
    private static void nearlyMidnight() {
        ClockKeeper k = Due.with("base -1;");
        Due.is("at 0", k.dial(0), 0);
        k.hands(0, -1, false);
        Due.is("a second ahead", k.dial(0), 86399000);
        k.hands(0, 1, false);
        k.wait(1);
        k.hands(0, -60, false);
        Due.is("60 millionths ahead", k.dial(0), 86399999);
        Due.is("DATE stays", k.told(0, 3), 1);
    }

    // "a CLOCK that doesn't STAND"
    private static void standing() {
        ClockKeeper k = Due.with("run 1;base 100;");
        k.wait(1440);
        Due.is("its last MINUTE", k.dial(0), 8640);
        k.wait(1);
        Due.is("it STANDS", k.dial(0), 8640);
        k.wait(5000);
        Due.is("it STANDS still", k.dial(0), 8640);
        k.wind(0, 0);
        Due.is("wound", k.dial(0), 8640);
        k.wait(1);
        Due.is("it goes on by its RATE", k.dial(0), 8640 + 60006);
    }

    // "all 0 at first", also when they come late
    private static void lateOnes() {
        ClockKeeper k = new ClockKeeper();
        k.wait(777);
        Due.clock(k, 0, 0, "");
        Due.is("as it comes", k.dial(0), 0);
        k.wait(1);
        Due.is("a MINUTE later", k.dial(0), 60000);
    }

    // "NoSuchElementException: no such CLOCK (so below)."
    private static void noSuchClock() {
        Town.needsClock("dial", (k, clock) -> k.dial(clock));
        Town.answers("dial of the last one", 0, k -> k.dial(Town.STANDING));
        ClockKeeper eight = new ClockKeeper();
        for (int i = 0; i < 8; i++) {
            eight.clock(0, 0, 0);
        }
        Due.is("CLOCK 7", eight.dial(7), 0);
        Due.refused("CLOCK 8", Due.ELEMENT, () -> eight.dial(8));
    }
}
