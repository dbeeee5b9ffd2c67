/** Promise 1, a new object: "MINUTE 0, no CLOCKS, nothing told." */
public final class Promise01Test {
    private Promise01Test() {
    }

    public static void main(String[] args) {
        atMinuteNought();
        noClocks();
        nothingTold();
        eachForItself();
        Due.end();
    }

    // "MINUTE 0"; DAY 0 is the 1st of month 1
    private static void atMinuteNought() {
        ClockKeeper k = new ClockKeeper();
        Due.is("MINUTE", k.count(0), 0);
        Due.is("wait(0)", k.wait(0), 0);
        Due.is("the TRUE DATE", k.count(7), 1);
        Due.is("the true month", k.count(8), 1);
    }

    // "no CLOCKS": not even number 0
    private static void noClocks() {
        ClockKeeper k = new ClockKeeper();
        Due.is("CLOCKS", k.count(1), 0);
        Due.refused("dial", Due.ELEMENT, () -> k.dial(0));
        Due.refused("error", Due.ELEMENT, () -> k.error(0));
        Due.refused("rate", Due.ELEMENT, () -> k.rate(0));
        Due.refused("told", Due.ELEMENT, () -> k.told(0, 0));
        Due.refused("wind", Due.ELEMENT, () -> k.wind(0, 0));
        Due.refused("oil", Due.ELEMENT, () -> k.oil(0));
        Due.refused("hands", Due.ELEMENT, () -> k.hands(0, 0, true));
        Due.refused("date", Due.ELEMENT, () -> k.date(0));
        Due.refused("pennies", Due.ELEMENT, () -> k.pennies(0, 0));
        Due.refused("refit", Due.ELEMENT, () -> k.refit(0, 0));
        Due.refused("trip", Due.ELEMENT, () -> k.trip(0, true));
        Due.refused("mend", Due.ELEMENT, () -> k.mend(0, 0));
        Due.refused("read", Due.ELEMENT, () -> k.read(0, 0, 0));
        Due.refused("reckoned", Due.ELEMENT, () -> k.reckoned(0, 0, 0));
        Due.refused("speed", Due.ELEMENT, () -> k.speed(0, 0));
        Due.refused("regulated", Due.ELEMENT, () -> k.regulated(0, 0));
        Due.refused("beyond", Due.ELEMENT, () -> k.beyond(0, 0, 0));
        Due.refused("law", Due.ELEMENT, () -> k.law(0, 0));
        Due.refused("kept", Due.ELEMENT, () -> k.kept(0, 0));
        Due.refused("foretold", Due.ELEMENT, () -> k.foretold(0, 1, 0));
        Due.refused("round", Due.ARGUMENT, () -> k.round(1, 0));
        Due.refused("plan", Due.ARGUMENT, () -> k.plan(1, 1, 1, 0));
    }

    // "nothing told": no WARMTH, READING, word of the LAW, SOUNDING, byte, FAULT or LEAP year; the KEEPER at 0, 0
    private static void nothingTold() {
        ClockKeeper k = new ClockKeeper();
        for (int what = 2; what <= 6; what++) {
            Due.is("count(" + what + ")", k.count(what), 0);
        }
        Due.is("no FAULT", k.fault(), -1);
        for (int what = 0; what <= 3; what++) {
            Due.is("sounding(0, " + what + ")", k.sounding(0, what), -1);
        }
        for (int what = 0; what <= 2; what++) {
            Due.is("heard(0, 0, 0, " + what + ")", k.heard(0, 0, 0, what), 0);
        }
        for (int hour = 1; hour <= 12; hour++) {
            Due.is("witness(0, 0, " + hour + ", 0)", k.witness(0, 0, hour, 0), -1);
        }
        Due.is("lawful(100000, 100000)", k.lawful(100000, 100000), -1);
        Due.refused("a byte of an empty TAPE", Due.ARGUMENT, () -> k.clock(0, 0, 1));
        Due.is("the year is LEAP", k.leap(false) ? 1 : 0, 0);
        Due.is("the KEEPER is as FAR", k.keeper(0, 0), 0);
        Due.is("the KEEPER goes across", new ClockKeeper().keeper(99, 99), 198);
    }

    // what one object is told stays its own
    private static void eachForItself() {
        ClockKeeper busy = Town.begun();
        busy.warmth(0);
        nothingTold();
        noClocks();
        atMinuteNought();
        Due.is("CLOCKS of the other one", busy.count(1), 3);
    }
}
