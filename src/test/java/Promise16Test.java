/** Promise 16, pennies: "PENNIES of a CLOCK: what they were." */
public final class Promise16Test {
    private Promise16Test() {
    }

    public static void main(String[] args) {
        whatTheyWere();
        eachForItself();
        tooMany();
        Due.end();
    }

    // "(-20 to 20; 0 at first)"
    private static void whatTheyWere() {
        ClockKeeper k = Due.with("penny 3;");
        Due.is("at first", k.pennies(0, 20), 0);
        Due.is("RATE by the most", k.rate(0), 60);
        Due.is("the most", k.pennies(0, -20), 20);
        Due.is("RATE by the least", k.rate(0), -60);
        Due.is("the least", k.pennies(0, -20), -20);
        Due.is("the least again", k.pennies(0, 0), -20);
        Due.is("none", k.pennies(0, 0), 0);
        Due.is("RATE by none", k.rate(0), 0);
        Due.is("none is ever gone", Due.with("").pennies(0, 1), 0);
    }

    private static void eachForItself() {
        ClockKeeper k = new ClockKeeper();
        k.clock(0, 0, 0);
        k.clock(0, 0, 0);
        k.pennies(0, 5);
        Due.is("of the other one", k.pennies(1, 6), 0);
        Due.is("of the first", k.pennies(0, 5), 5);
        k.wait(10000);
        Due.is("they stay", k.pennies(0, 5), 5);
    }

    // "IllegalArgumentException: they are not -20 to 20."; no such CLOCK ahead of it
    private static void tooMany() {
        int[] wrong = {-21, 21, Integer.MIN_VALUE, Integer.MAX_VALUE};
        for (int pennies : wrong) {
            Town.refused("pennies(1, " + pennies + ")", Due.ARGUMENT, k -> k.pennies(Town.RACK, pennies));
        }
        Town.refused("pennies(3, 21)", Due.ELEMENT, k -> k.pennies(Town.NOBODY, 21));
        Town.needsClock("pennies", (k, clock) -> k.pennies(clock, 0));
        Town.answers("pennies(1, -3)", -3, k -> k.pennies(Town.RACK, -3));
    }
}
