/** Promise 13, oil: "It is OILED: DAYS since it was." */
public final class Promise13Test {
    private Promise13Test() {
    }

    public static void main(String[] args) {
        daysByTheirNumbers();
        theMostDays();
        whatOilDoes();
        noSuchClock();
        Due.end();
    }

    // "(at first: since it came; the number of this DAY less that of that one)"
    private static void daysByTheirNumbers() {
        ClockKeeper k = new ClockKeeper();
        k.wait(1439);
        k.clock(0, 0, 0);
        k.clock(0, 0, 0);
        Due.is("on the DAY that it came", k.oil(0), 0);
        k.wait(1);
        Due.is("a MINUTE later", k.oil(0), 1);
        Due.is("at once again", k.oil(0), 0);
        k.wait(1439);
        Due.is("nearly a DAY later", k.oil(0), 0);
        k.wait(1);
        Due.is("a DAY later", k.oil(0), 1);
        Due.is("the other one, since it came", k.oil(1), 2);
    }

    private static void theMostDays() {
        ClockKeeper k = Due.with("");
        Due.pass(k, 100000);
        Due.is("from the first MINUTE to the last", k.oil(0), 69);
        Due.is("then", k.oil(0), 0);
    }

    // its wear begins anew, and nothing else
    private static void whatOilDoes() {
        ClockKeeper k = Due.with("run 5;wear 10;pull 1;");
        k.wait(3 * 1440);
        int dial = k.dial(0);
        Due.is("RATE", k.rate(0), -30 - 6);
        Due.is("DAYS", k.oil(0), 3);
        Due.is("RATE then", k.rate(0), -6);
        Due.is("LEFT stays", k.told(0, 0), 2 * 1440);
        Due.is("DIAL stays", k.dial(0), dial);
    }

    private static void noSuchClock() {
        Town.needsClock("oil", (k, clock) -> k.oil(clock));
    }
}
