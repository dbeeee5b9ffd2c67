/** Promise 30, beyond: "BEYOND a bound as KNOWN; NONE: not up to MINUTE 200,000, or without READINGS." */
public final class Promise30Test {
    private Promise30Test() {
    }

    public static void main(String[] args) {
        without();
        byOneAlone();
        fromTheLatestOn();
        aboveIt();
        belowItTurnedAbout();
        theOtherSideFirst();
        upToTheLast();
        never();
        asKnown();
        bounds();
        noSuchClock();
        Due.end();
    }

    private static ClockKeeper read(int m1, int e1, int m2, int e2) {
        ClockKeeper k = Due.with("");
        k.wait(1000);
        k.read(0, m1, e1);
        k.read(0, m2, e2);
        return k;
    }

    // "NONE: ... or without READINGS."
    private static void without() {
        ClockKeeper k = Due.with("");
        Due.is("without any", k.beyond(0, 0, 100000), -1);
        Town.answers("beyond(2, 0, 100000)", -1, town -> town.beyond(Town.STANDING, 0, 100000));
    }

    // one alone tells its ERROR for every MINUTE: from its own on, or never
    private static void byOneAlone() {
        int[] errors = {50, -50};
        for (int error : errors) {
            ClockKeeper k = Due.with("");
            k.wait(1000);
            k.read(0, 100, error);
            Due.is("a bound below " + error, k.beyond(0, 49, 1000), 100);
            Due.is("at " + error, k.beyond(0, 50, 1000), -1);
            Due.is("above " + error, k.beyond(0, 51, 1000), -1);
            Due.is("of 0 for " + error, k.beyond(0, 0, 1000), 100);
        }
        ClockKeeper none = Due.with("");
        none.read(0, 0, 0);
        Due.is("0 is not beyond 0", none.beyond(0, 0, 0), -1);
    }

    // "the first MINUTE from m2 on": not an earlier one, though it is beyond there
    private static void fromTheLatestOn() {
        Due.is("beyond at m1, within at m2, beyond again", read(100, 60, 200, 40).beyond(0, 50, 1000), 200 + 451);
        Due.is("at m2 already", read(100, 0, 200, 51).beyond(0, 50, 1000), 200);
        Due.is("at m2 below", read(100, 0, 200, -51).beyond(0, 50, 1000), 200);
        Due.is("a MINUTE behind m2", read(199, 49, 200, 50).beyond(0, 50, 1000), 201);
        Due.is("coming back from beyond", read(100, 90, 200, 51).beyond(0, 50, 1000), 200);
    }

    // "is above it"
    private static void aboveIt() {
        Due.is("1 a MINUTE", read(0, 0, 1, 1).beyond(0, 50, 1000), 51);
        Due.is("1 a MINUTE, of 0", read(0, 0, 1, 1).beyond(0, 0, 1000), 1);
        Due.is("1 in 10", read(0, 0, 10, 1).beyond(0, 5, 1000), 60);
        Due.is("3 in 10, rounded down", read(0, 0, 10, 3).beyond(0, 5, 1000), 20);
        Due.is("from 0 on", read(0, 0, 10, 0).beyond(0, 0, 1000), -1);
    }

    // "or below it turned about"
    private static void belowItTurnedAbout() {
        Due.is("-1 a MINUTE", read(0, 0, 1, -1).beyond(0, 50, 1000), 51);
        Due.is("-1 in 10, rounded down", read(0, 0, 10, -1).beyond(0, 5, 1000), 51);
        Due.is("-3 in 10, rounded down", read(0, 0, 10, -3).beyond(0, 5, 1000), 17);
    }

    private static void theOtherSideFirst() {
        Due.is("falling from above 0", read(0, 50, 10, 49).beyond(0, 50, 1000), 10 + 990 + 1);
        Due.is("rising from below 0", read(0, -50, 10, -49).beyond(0, 50, 1000), 10 + 990 + 10);
    }

    // "NONE: not up to MINUTE 200,000"
    private static void upToTheLast() {
        ClockKeeper k = read(0, 0, 1, 1);
        Due.is("in MINUTE 199,999", k.beyond(0, 199998, 1000), 199999);
        Due.is("in MINUTE 200,000", k.beyond(0, 199999, 1000), 200000);
        Due.is("in MINUTE 200,001", k.beyond(0, 200000, 1000), -1);
        ClockKeeper slow = read(0, 0, 1000, -1);
        Due.is("slow, in MINUTE 199,001", slow.beyond(0, 199, 1000), 199001);
        Due.is("slow, not up to it", slow.beyond(0, 200, 1000), -1);
        ClockKeeper last = Due.with("");
        Due.pass(last, 100000);
        last.read(0, 99999, 0);
        last.read(0, 100000, 1000);
        Due.is("from the last MINUTE on", last.beyond(0, 999, 100000), 100000);
        Due.is("far behind it", last.beyond(0, 100000000, 100000), 100000 + 99999 + 1);
        last.read(0, 100000, 999);
        Due.is("behind all", last.beyond(0, 100000000, 100000), -1);
    }

    private static void never() {
        Due.is("it stays within", read(0, 50, 10, 50).beyond(0, 50, 1000), -1);
        Due.is("it stays beyond", read(0, 50, 10, 50).beyond(0, 49, 1000), 10);
        Due.is("it goes too slowly", read(0, 0, 1000, 1).beyond(0, 1000, 1000), -1);
    }

    private static void asKnown() {
        ClockKeeper k = Due.with("");
        k.read(0, 0, 0);
        k.wait(10);
        k.read(0, 10, 10);
        k.wait(10);
        k.read(0, 10, 1);
        Due.is("nothing", k.beyond(0, 50, -1), -1);
        Due.is("one alone", k.beyond(0, 50, 9), -1);
        Due.is("two", k.beyond(0, 50, 10), 51);
        Due.is("two still", k.beyond(0, 50, 19), 51);
        Due.is("put right", k.beyond(0, 50, 20), 510);
        Due.is("the most", k.beyond(0, 50, Integer.MAX_VALUE), 510);
        Due.is("the least", k.beyond(0, 50, Integer.MIN_VALUE), -1);
    }

    // "IllegalArgumentException: the bound is not 0 to 100,000,000.", also without READINGS
    private static void bounds() {
        int[] wrong = {-1, 100000001, Integer.MIN_VALUE, Integer.MAX_VALUE};
        for (int bound : wrong) {
            Town.refused("beyond(0, " + bound + ", 100000)", Due.ARGUMENT, k -> k.beyond(0, bound, 100000));
            Town.refused("beyond(2, " + bound + ", 0)", Due.ARGUMENT, k -> k.beyond(2, bound, 0));
        }
        ClockKeeper k = read(0, -100000000, 1, 100000000);
        Due.is("the most", k.beyond(0, 100000000, 1000), 2);
        Due.is("one less", k.beyond(0, 99999999, 1000), 1);
        ClockKeeper fall = read(0, 100000000, 1, -100000000);
        Due.is("the most turned about", fall.beyond(0, 100000000, 1000), 2);
        Due.is("one less", fall.beyond(0, 99999999, 1000), 1);
    }

    private static void noSuchClock() {
        Town.refused("beyond(3, -1, 0)", Due.ELEMENT, k -> k.beyond(Town.NOBODY, -1, 0));
        Town.needsClock("beyond", (k, clock) -> k.beyond(clock, 0, 100000));
        Town.answers("beyond(0, 3000, ..)", 80001, k -> k.beyond(Town.WHEEL, 3000, 100000));
    }
}
