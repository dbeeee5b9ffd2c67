/** Promise 29, regulated: "REGULATED as KNOWN; VOID: not two READINGS." */
public final class Promise29Test {
    private Promise29Test() {
    }

    public static void main(String[] args) {
        notTwo();
        nearest();
        ofAlikeOnesTheLeast();
        fromItsPenniesNow();
        mostAndLeast();
        pennyOfNought();
        byTheRateRoundedDown();
        asKnown();
        noSuchClock();
        Due.end();
    }

    /** A CLOCK of which that RATE is reckoned: 60 thousandths of a second in 1,000 MINUTES are 1. */
    private static ClockKeeper going(int penny, int rate) {
        ClockKeeper k = Due.with("penny " + penny + ";");
        k.wait(1000);
        k.read(0, 0, 0);
        k.read(0, 1000, 60 * rate);
        Due.is("RATE reckoned", k.speed(0, 1000), rate);
        return k;
    }

    // "VOID: not two READINGS."
    private static void notTwo() {
        ClockKeeper k = Due.with("");
        Due.is("none", k.regulated(0, 0), -2000000000);
        k.read(0, 0, 0);
        Due.is("one", k.regulated(0, 0), -2000000000);
        k.wait(1);
        k.read(0, 1, 0);
        Due.is("two", k.regulated(0, 1), 0);
    }

    // "is nearest to 0"
    private static void nearest() {
        int[] rates = {0, 4, 5, 6, 14, 16, -4, -6, -14, -16, 100, -100};
        int[] pennies = {0, 0, -1, -1, -1, -2, 0, 1, 1, 2, -10, 10};
        for (int i = 0; i < rates.length; i++) {
            Due.is("RATE " + rates[i] + " by 10", going(10, rates[i]).regulated(0, 1000), pennies[i]);
        }
    }

    // "of alike ones the least"
    private static void ofAlikeOnesTheLeast() {
        Due.is("RATE 5 by 10: -1 or 0", going(10, 5).regulated(0, 1000), -1);
        Due.is("RATE -5 by 10: 0 or 1", going(10, -5).regulated(0, 1000), 0);
        Due.is("RATE 45 by 10: -5 or -4", going(10, 45).regulated(0, 1000), -5);
        Due.is("RATE -45 by 10: 4 or 5", going(10, -45).regulated(0, 1000), 4);
        Due.is("RATE 195 by 10: -20 or -19", going(10, 195).regulated(0, 1000), -20);
        Due.is("RATE -195 by 10: 19 or 20", going(10, -195).regulated(0, 1000), 19);
    }

    // "what that number is more than its PENNIES now"
    private static void fromItsPenniesNow() {
        ClockKeeper k = going(10, 44);
        Due.is("none now", k.regulated(0, 1000), -4);
        k.pennies(0, 7);
        Due.is("7 now", k.regulated(0, 1000), 3);
        k.pennies(0, -16);
        Due.is("-16 now", k.regulated(0, 1000), -20);
        k.pennies(0, -17);
        Due.is("-17 now", k.regulated(0, 1000), -20);
        Due.refit(k, 0, "penny 11;");
        Due.is("by the penny now", k.regulated(0, 1000), -20);
        k.pennies(0, 20);
        Due.is("20 now", k.regulated(0, 1000), 16);
    }

    // "PENNIES (-20 to 20)"
    private static void mostAndLeast() {
        Due.is("RATE 204 by 10", going(10, 204).regulated(0, 1000), -20);
        Due.is("RATE 1,000 by 10", going(10, 1000).regulated(0, 1000), -20);
        Due.is("RATE -200 by 10", going(10, -200).regulated(0, 1000), 20);
        Due.is("RATE -196 by 10", going(10, -196).regulated(0, 1000), 20);
        Due.is("RATE -1,000 by 10", going(10, -1000).regulated(0, 1000), 20);
        ClockKeeper k = Due.with("penny 50;");
        k.wait(1);
        k.read(0, 0, 100000000);
        k.read(0, 1, -100000000);
        Due.is("the slowest of all", k.regulated(0, 1), 20);
        k.read(0, 0, -100000000);
        k.read(0, 1, 100000000);
        Due.is("the fastest of all", k.regulated(0, 1), -20);
        k.read(0, 0, 100000000);
        k.read(0, 1, -20000000);
        Due.is("a RATE of -2,000,000,000", k.regulated(0, 1), 20);
    }

    // all are alike
    private static void pennyOfNought() {
        Due.is("RATE 7 by 0", going(0, 7).regulated(0, 1000), -20);
        Due.is("RATE 0 by 0", going(0, 0).regulated(0, 1000), -20);
    }

    // "the RATE reckoned" is rounded down
    private static void byTheRateRoundedDown() {
        ClockKeeper k = Due.with("penny 2;");
        k.wait(1000);
        k.read(0, 0, 0);
        k.read(0, 1000, 90);
        Due.is("1 and a half is 1: -1 or 0", k.regulated(0, 1000), -1);
        k.read(0, 1000, 119);
        Due.is("nearly 2 is 1", k.regulated(0, 1000), -1);
        k.read(0, 1000, -1);
        Due.is("a little below 0 is -1: 0 or 1", k.regulated(0, 1000), 0);
        k.read(0, 1000, -61);
        Due.is("a little below -1 is -2", k.regulated(0, 1000), 1);
        k.read(0, 1000, 59);
        Due.is("a little below 1 is 0", k.regulated(0, 1000), 0);
    }

    private static void asKnown() {
        ClockKeeper k = going(10, 100);
        k.wait(1);
        k.read(0, 1000, 0);
        Due.is("before any", k.regulated(0, 999), -2000000000);
        Due.is("then", k.regulated(0, 1000), -10);
        Due.is("now", k.regulated(0, 1001), 0);
        Due.is("the least MINUTE", k.regulated(0, Integer.MIN_VALUE), -2000000000);
        Due.is("the most", k.regulated(0, Integer.MAX_VALUE), 0);
    }

    private static void noSuchClock() {
        Town.needsClock("regulated", (k, clock) -> k.regulated(clock, 100000));
        Town.answers("regulated(0, ..)", 3, k -> k.regulated(Town.WHEEL, 100000));
    }
}
