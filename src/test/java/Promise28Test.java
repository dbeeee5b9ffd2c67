/** Promise 28, speed: "RATE reckoned as KNOWN: (e2 - e1) times 1,000 by 60 times (m2 - m1), rounded down; VOID: not two READINGS." */
public final class Promise28Test {
    private Promise28Test() {
    }

    public static void main(String[] args) {
        notTwo();
        roundedDown();
        most();
        asKnown();
        noSuchClock();
        Due.end();
    }

    // "VOID: not two READINGS."
    private static void notTwo() {
        ClockKeeper k = Due.with("");
        k.clock(0, 0, 0);
        k.wait(100);
        Due.is("none", k.speed(0, 100), -2000000000L);
        k.read(0, 10, 1);
        Due.is("one", k.speed(0, 100), -2000000000L);
        k.read(0, 10, 2);
        Due.is("one that took the other's place", k.speed(0, 100), -2000000000L);
        k.read(1, 20, 3);
        Due.is("one of another CLOCK", k.speed(0, 100), -2000000000L);
        k.read(0, 0, 2);
        Due.is("two", k.speed(0, 100), 0);
        Due.is("of the other CLOCK", k.speed(1, 100), -2000000000L);
    }

    private static ClockKeeper read(int m1, int e1, int m2, int e2) {
        ClockKeeper k = Due.with("");
        k.wait(10000);
        k.read(0, m1, e1);
        k.read(0, m2, e2);
        return k;
    }

    private static void roundedDown() {
        Due.is("1 in 1: 16 and two thirds", read(0, 0, 1, 1).speed(0, 10000), 16);
        Due.is("-1 in 1", read(0, 0, 1, -1).speed(0, 10000), -17);
        Due.is("3 in 1", read(0, 0, 1, 3).speed(0, 10000), 50);
        Due.is("-3 in 1", read(0, 0, 1, -3).speed(0, 10000), -50);
        Due.is("1 in 17", read(20, 5, 37, 6).speed(0, 10000), 0);
        Due.is("-1 in 17", read(20, 5, 37, 4).speed(0, 10000), -1);
        Due.is("-1 in 10,000", read(0, 0, 10000, -1).speed(0, 10000), -1);
        Due.is("1 in 10,000", read(0, 0, 10000, 1).speed(0, 10000), 0);
        Due.is("told the other way round", read(37, 6, 20, 5).speed(0, 10000), 0);
        Due.is("as much", read(5, 9, 6, 9).speed(0, 10000), 0);
    }

    // more than 32 bits hold; -2,000,000,000 may be a RATE as well
    private static void most() {
        Due.is("the most", read(0, -100000000, 1, 100000000).speed(0, 10000), 3333333333L);
        Due.is("the least", read(0, 100000000, 1, -100000000).speed(0, 10000), -3333333334L);
        Due.is("as VOID", read(0, 100000000, 1, -20000000).speed(0, 10000), -2000000000L);
    }

    private static void asKnown() {
        ClockKeeper k = Due.with("");
        k.read(0, 0, 0);
        k.wait(6);
        k.read(0, 6, 36);
        k.wait(6);
        k.read(0, 6, 18);
        k.read(0, 12, 54);
        Due.is("in MINUTE 5", k.speed(0, 5), -2000000000L);
        Due.is("in MINUTE 6", k.speed(0, 6), 100);
        Due.is("in MINUTE 11", k.speed(0, 11), 100);
        Due.is("in MINUTE 12", k.speed(0, 12), 100);
        k.read(0, 12, 53);
        Due.is("put right", k.speed(0, 12), 97);
        Due.is("the least MINUTE", k.speed(0, Integer.MIN_VALUE), -2000000000L);
        Due.is("the most", k.speed(0, Integer.MAX_VALUE), 97);
    }

    private static void noSuchClock() {
        Town.needsClock("speed", (k, clock) -> k.speed(clock, 100000));
        Town.answers("speed(1, ..)", -2000000000L, k -> k.speed(Town.RACK, 100000));
        Town.answers("speed(0, ..)", -12, k -> k.speed(Town.WHEEL, 100000));
    }
}
