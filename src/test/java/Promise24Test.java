/** Promise 24, round: "ROUND over CLOCKS told by bits: 0 how many STOP, 1 minutes till it is done, 2 + k the k-th CLOCK." */
public final class Promise24Test {
    private Promise24Test() {
    }

    public static void main(String[] args) {
        windingByDays();
        stops();
        noMoreThanAllDays();
        fewestStop();
        doneSoonest();
        firstByNumbers();
        windingTakesItsTime();
        fromNowAndHere();
        changesNothing();
        lastMinute();
        bits();
        oneToSix();
        anotherWhat();
        Due.end();
    }

    /** stops, minutes, then the CLOCKS in their order */
    private static void round(String name, ClockKeeper k, int bits, int... due) {
        for (int what = 0; what < due.length; what++) {
            Due.is(name + ": round(" + bits + ", " + what + ")", k.round(bits, what), due[what]);
        }
    }

    // "a minute for each DAY, begun or whole, that it has fallen (1,440 run less LEFT)"
    private static void windingByDays() {
        ClockKeeper k = Due.with("run 3;");
        round("full", k, 1, 0, 0, 0);
        k.wait(1);
        round("a DAY begun", k, 1, 0, 1, 0);
        k.wait(1439);
        round("a whole DAY", k, 1, 0, 1, 0);
        k.wait(1);
        round("another begun", k, 1, 0, 2, 0);
        k.wait(1439);
        round("two whole", k, 1, 0, 2, 0);
        k.keeper(0, 1);
        round("another begun as the KEEPER comes", k, 1, 0, 1 + 3, 0);
        k.keeper(0, 0);
        k.wind(0, 0);
        k.keeper(9, 9);
        round("full, but 18 minutes away", k, 1, 0, 18 + 1, 0);
    }

    // "a CLOCK STOPS, if its LEFT is 0 when the KEEPER comes to it"
    private static void stops() {
        ClockKeeper k = Due.with("run 2;");
        k.wait(2880 - 10);
        k.keeper(4, 5);
        round("one is LEFT", k, 1, 0, 9 + 2, 0);
        k.keeper(5, 5);
        round("none is LEFT", k, 1, 1, 10 + 2, 0);
        k.keeper(5, 6);
        round("none for a minute", k, 1, 1, 11 + 2, 0);
        k.keeper(0, 0);
        round("ten are LEFT", k, 1, 0, 2, 0);
        k.wait(9);
        round("one is LEFT", k, 1, 0, 2, 0);
        k.wait(1);
        round("it STANDS", k, 1, 1, 2, 0);
    }

    // it has fallen no more than 1,440 run, however long it STANDS
    private static void noMoreThanAllDays() {
        ClockKeeper k = Due.with("run 1;");
        k.wait(5000);
        k.keeper(99, 99);
        round("it STANDS", k, 1, 1, 198 + 1, 0);
    }

    private static ClockKeeper nearAndFar(int minutes) {
        ClockKeeper k = new ClockKeeper();
        Due.clock(k, 10, 0, "run 31;");
        Due.clock(k, 30, 0, "run 1;");
        k.wait(minutes);
        return k;
    }

    // "of all orders the one in which the fewest STOP, then ... soonest"
    private static void fewestStop() {
        round("time for the near one first", nearAndFar(1440 - 32), 3, 0, 10 + 1 + 20 + 1, 0, 1);
        round("the far one must be first", nearAndFar(1440 - 31), 3, 0, 30 + 1 + 20 + 2, 1, 0);
        round("it stops anyhow", nearAndFar(1440 - 30), 3, 1, 10 + 1 + 20 + 1, 0, 1);
        ClockKeeper k = new ClockKeeper();
        Due.clock(k, 10, 0, "run 1;");
        Due.clock(k, 0, 10, "run 1;");
        Due.clock(k, 10, 10, "run 1;");
        k.wait(1440 - 11);
        round("one at most can be saved", k, 7, 2, 10 + 1 + 10 + 1 + 10 + 1, 0, 2, 1);
    }

    // "then the one that is done soonest (with the last WINDING)"
    private static void doneSoonest() {
        ClockKeeper k = new ClockKeeper();
        Due.clock(k, 10, 0, "run 31;");
        Due.clock(k, 5, 0, "run 31;");
        Due.clock(k, 20, 0, "run 31;");
        k.wait(10);
        round("along the street", k, 7, 0, 20 + 3, 1, 0, 2);
        round("two of them", k, 5, 0, 20 + 2, 0, 2);
        round("two others", k, 6, 0, 20 + 2, 1, 2);
        k.keeper(20, 0);
        round("from its other end", k, 7, 0, 15 + 3, 2, 0, 1);
        k.keeper(10, 0);
        round("from its midst, either way", k, 7, 0, 5 + 15 + 3, 0, 1, 2);
        k.keeper(13, 0);
        round("nearer to the far one", k, 7, 0, 7 + 15 + 3, 2, 0, 1);
    }

    // a WINDING more counts as a minute of the way does
    private static void windingTakesItsTime() {
        ClockKeeper k = new ClockKeeper();
        Due.clock(k, 0, 2, "run 31;");
        Due.clock(k, 2, 0, "run 31;");
        k.wait(1437);
        k.wind(0, 0);
        round("the second falls a DAY more if it is last", k, 3, 0, 2 + 1 + 4 + 1, 1, 0);
        ClockKeeper both = new ClockKeeper();
        Due.clock(both, 0, 0, "run 31;");
        Due.clock(both, 1, 0, "run 1;");
        both.wait(1440 - 2);
        round("a minute to wind and one to go are too many", both, 3, 0, 1 + 1 + 1 + 2, 1, 0);
    }

    // "then the first by numbers"
    private static void firstByNumbers() {
        ClockKeeper k = new ClockKeeper();
        for (int i = 0; i < 8; i++) {
            Due.clock(k, 1, 1, "");
        }
        round("all alike", k, 63, 0, 2 + 6, 0, 1, 2, 3, 4, 5);
        round("others alike", k, 252, 0, 2 + 6, 2, 3, 4, 5, 6, 7);
        round("with gaps", k, 128 + 32 + 8 + 2, 0, 2 + 4, 1, 3, 5, 7);
        ClockKeeper both = new ClockKeeper();
        Due.clock(both, 0, 5, "run 31;");
        Due.clock(both, 5, 0, "run 31;");
        Due.clock(both, 5, 5, "run 31;");
        round("either way round", both, 3, 0, 5 + 1 + 10 + 1, 0, 1);
        round("either way round the corner", both, 7, 0, 5 + 1 + 5 + 1 + 5 + 1, 0, 2, 1);
    }

    // "from now on and from where the KEEPER is"
    private static void fromNowAndHere() {
        ClockKeeper k = new ClockKeeper();
        Due.clock(k, 99, 99, "run 31;");
        Due.clock(k, 0, 99, "run 31;");
        round("from 0, 0", k, 3, 0, 99 + 1 + 99 + 1, 1, 0);
        k.keeper(99, 0);
        round("from 99, 0", k, 3, 0, 99 + 1 + 99 + 1, 0, 1);
        k.wait(1440);
        round("a DAY later", k, 3, 0, 99 + 2 + 99 + 2, 0, 1);
    }

    private static void changesNothing() {
        Town.answers("how many STOP", 1, k -> k.round(7, 0));
        Town.answers("the first", Town.WHEEL, k -> k.round(7, 2));
        Town.answers("the last", Town.RACK, k -> k.round(7, 4));
    }

    // minutes that wouldn't come any more count as well
    private static void lastMinute() {
        ClockKeeper k = Due.with("run 31;");
        Due.pass(k, 40000);
        k.wind(0, 0);
        Due.pass(k, 60000);
        k.keeper(9, 9);
        round("at MINUTE 100,000", k, 1, 1, 18 + 31, 0);
    }

    // "bits that tell no CLOCK"
    private static void bits() {
        int[] wrong = {0, 8, 9, 128, 256, 1 << 30, Integer.MIN_VALUE, -1, Integer.MAX_VALUE, Integer.MIN_VALUE + 1};
        for (int bits : wrong) {
            Town.refused("round(" + bits + ", 0)", Due.ARGUMENT, k -> k.round(bits, 0));
        }
        ClockKeeper eight = eight();
        Due.is("the eighth CLOCK", eight.round(128, 2), 7);
        Due.refused("a ninth", Due.ARGUMENT, () -> eight.round(256, 0));
        Due.refused("a ninth with others", Due.ARGUMENT, () -> eight.round(257, 0));
    }

    private static ClockKeeper eight() {
        ClockKeeper k = new ClockKeeper();
        for (int i = 0; i < 8; i++) {
            Due.clock(k, i, 0, "");
        }
        return k;
    }

    // "or not 1 to 6"
    private static void oneToSix() {
        ClockKeeper k = eight();
        round("one", k, 1, 0, 0, 0);
        round("six", k, 252, 0, 7 + 6, 2, 3, 4, 5, 6, 7);
        Due.refused("none", Due.ARGUMENT, () -> k.round(0, 0));
        Due.refused("seven", Due.ARGUMENT, () -> k.round(127, 0));
        Due.refused("all eight", Due.ARGUMENT, () -> k.round(255, 0));
    }

    // "or another what."
    private static void anotherWhat() {
        int[] wrong = {-1, 4, 5, Integer.MIN_VALUE, Integer.MAX_VALUE};
        for (int what : wrong) {
            Town.refused("round(3, " + what + ")", Due.ARGUMENT, k -> k.round(3, what));
        }
        ClockKeeper k = eight();
        Due.is("the only one", k.round(2, 2), 1);
        Due.refused("a second of one", Due.ARGUMENT, () -> k.round(2, 3));
        Due.is("the sixth of six", k.round(63, 7), 5);
        Due.refused("a seventh of six", Due.ARGUMENT, () -> k.round(63, 8));
    }
}
