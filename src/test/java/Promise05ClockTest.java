/** Promise 5, clock: places, bytes of the TAPE, how many CLOCKS, and how a CLOCK comes. Its TEXT: Promise05TextTest. */
public final class Promise05ClockTest {
    private Promise05ClockTest() {
    }

    public static void main(String[] args) {
        places();
        bytes();
        restOfTheTape();
        numbers();
        eighthAndNinth();
        ninthWithTwoReasons();
        eighthWithAFault();
        faulty();
        refusedKeepTheTape();
        asItComes();
        Due.end();
    }

    // "at a place (x and y, 0 to 99 each"
    private static void places() {
        ClockKeeper k = new ClockKeeper();
        Due.is("x 0, y 0", k.clock(0, 0, 0), 0);
        Due.is("x 99, y 0", k.clock(99, 0, 0), 1);
        Due.is("x 0, y 99", k.clock(0, 99, 0), 2);
        Due.is("x 99, y 99", k.clock(99, 99, 0), 3);
        k.wait(60);
        Due.is("heard at x 99, y 0", k.heard(99, 0, 59, 2), 2);
        Due.is("heard at x 0, y 99", k.heard(0, 99, 59, 2), 4);
        Due.is("heard at x 99, y 99", k.heard(99, 99, 59, 2), 8);
        int[] wrong = {-1, 100, Integer.MIN_VALUE, Integer.MAX_VALUE};
        for (int w : wrong) {
            Town.refused("clock at x " + w, Due.ARGUMENT, town -> town.clock(w, 0, 0));
            Town.refused("clock at y " + w, Due.ARGUMENT, town -> town.clock(0, w, 0));
        }
    }

    // "or n is not 0 to the TAPE's bytes"
    private static void bytes() {
        int[] wrong = {-1, 21, 400, Integer.MIN_VALUE, Integer.MAX_VALUE};
        for (int n : wrong) {
            Town.refused("clock of " + n + " bytes", Due.ARGUMENT, k -> k.clock(0, 0, n));
        }
        ClockKeeper k = new ClockKeeper();
        Due.refused("1 byte of none", Due.ARGUMENT, () -> k.clock(0, 0, 1));
        Due.is("none of none", k.clock(0, 0, 0), 0);
        Due.feed(k, "base 1; reach 7;   ;");
        Due.is("all 20", k.clock(0, 0, 20), -9);
        Due.is("the last one can't stand there", k.fault(), 19);
        Due.feed(k, "base 1; reach 7;   ;");
        Due.is("19", k.clock(0, 0, 19), 1);
        Due.feed(k, "base 1; reach 7;   ;");
        Due.is("none of 20", k.clock(0, 0, 0), 2);
        Due.is("RATE of an empty TEXT", k.rate(2), 0);
    }

    // "The first n bytes of the TAPE (empty then)": what stood behind them is gone, too
    private static void restOfTheTape() {
        ClockKeeper k = new ClockKeeper();
        Due.feed(k, "base 1;base 2;base 3;");
        Due.is("the first 7", k.clock(0, 0, 7), 0);
        Due.is("RATE", k.rate(0), 1);
        Due.is("bytes", k.count(6), 0);
        Due.refused("a byte behind", Due.ARGUMENT, () -> k.clock(0, 0, 1));
        Due.feed(k, "base 4;");
        Due.is("a new TEXT", k.clock(0, 0, 7), 1);
        Due.is("its RATE", k.rate(1), 4);
    }

    // "numbered from 0 on"; ": its number"
    private static void numbers() {
        ClockKeeper k = new ClockKeeper();
        Due.is("the first", k.clock(5, 5, 0), 0);
        Due.is("CLOCKS", k.count(1), 1);
        Due.is("a faulty one takes none", Due.clock(k, 5, 5, "x"), -9);
        Due.is("CLOCKS", k.count(1), 1);
        Due.refused("a place that isn't", Due.ARGUMENT, () -> k.clock(5, 100, 0));
        Due.is("the second", k.clock(5, 5, 0), 1);
        Due.is("CLOCKS", k.count(1), 2);
    }

    private static ClockKeeper withEight() {
        ClockKeeper k = new ClockKeeper();
        for (int i = 0; i < 8; i++) {
            Due.is("CLOCK " + i, k.clock(i, i, 0), i);
        }
        return k;
    }

    // "8 at most"; "-1: there are 8 (the TAPE is empty then, too)"
    private static void eighthAndNinth() {
        ClockKeeper k = withEight();
        Due.is("CLOCKS", k.count(1), 8);
        k.wait(60);
        Due.is("the eighth is heard", k.heard(7, 7, 59, 2) >> 7, 1);
        Due.feed(k, "base 5;");
        Due.is("a ninth", k.clock(0, 0, 7), -1);
        Due.is("CLOCKS", k.count(1), 8);
        Due.is("the TAPE is empty", k.count(6), 0);
        Due.is("no FAULT", k.fault(), -1);
        Due.is("RATE of the eighth", k.rate(7), 0);
        Due.refused("the ninth", Due.ELEMENT, () -> k.rate(8));
        Due.is("a ninth of no bytes", k.clock(0, 0, 0), -1);
    }

    // "-1: there are 8" names its condition whole: it goes ahead of the FAULT, and the exceptions ahead of both
    private static void ninthWithTwoReasons() {
        ClockKeeper k = withEight();
        Due.feed(k, "run 0;");
        Due.refused("a ninth outside", Due.ARGUMENT, () -> k.clock(100, 0, 6));
        Due.refused("a ninth of too many bytes", Due.ARGUMENT, () -> k.clock(0, 0, 21));
        Due.is("both keep the TAPE", k.count(6), 20);
        Due.is("a ninth that has FAULT 2", k.clock(0, 0, 6), -1);
        Due.is("the TAPE is empty", k.count(6), 0);
        Due.is("CLOCKS", k.count(1), 8);
        k.feed(0, 0, 0, 0, 0);
        Due.is("a ninth that has FAULT 1", k.clock(0, 0, 1), -1);
        Due.is("the TAPE is empty", k.count(6), 0);
        Due.is("a ninth that has FAULT 3", Due.clock(k, 0, 0, "strike rack " + "(".repeat(9)), -1);
        Due.is("the TAPE is empty", k.count(6), 0);
        Due.is("CLOCKS", k.count(1), 8);
        Due.is("a ninth without a FAULT", k.clock(0, 0, 0), -1);
        Due.is("a refit that has FAULT 2", Due.refit(k, 7, "run 0;"), -8);
        Due.is("its place", k.fault(), 4);
    }

    // with 7 there the condition doesn't hold yet: a FAULT is answered, and the eighth comes behind it
    private static void eighthWithAFault() {
        ClockKeeper k = new ClockKeeper();
        for (int i = 0; i < 7; i++) {
            k.clock(i, i, 0);
        }
        Due.is("an eighth that has FAULT 2", Due.clock(k, 0, 0, "run 0;"), -8);
        Due.is("CLOCKS", k.count(1), 7);
        Due.is("an eighth without a FAULT", Due.clock(k, 0, 0, "run 1;"), 7);
    }

    // "or its FAULT less 10": no CLOCK comes, and nothing of its TEXT stays
    private static void faulty() {
        String[] ends = {"strike rack ((", "strike rack 5+", "strike wheel 7,7", "silent 20-23 held;run", "silent 20-3 stopped;run"};
        for (String end : ends) {
            String all = "run 2;base 3;warm 4;wear 5;pull 6;penny 7;strike wheel 1,2;strokes 9;quarters 1 2 3 4;calendar months;reach 11;" + end;
            ClockKeeper k = new ClockKeeper();
            Due.pass(k, 58 * 1440);
            Due.is("faulty at its end", Due.clock(k, 0, 0, all), -9);
            Due.is("its place", k.fault(), all.length());
            Due.is("CLOCKS", k.count(1), 0);
            Due.is("the TAPE is empty", k.count(6), 0);
            Due.is("one without a TEXT", k.clock(0, 0, 0), 0);
            Promise05TextTest.isAsWithout(k);
        }
        ClockKeeper hot = new ClockKeeper();
        hot.warmth(50);
        Due.is("faulty", Due.clock(hot, 0, 0, "warm 4;base 3;x"), -9);
        hot.clock(0, 0, 0);
        Due.is("base 0, warm 0", hot.rate(0), 0);
        ClockKeeper deep = new ClockKeeper();
        Due.is("brackets that stay open", Due.clock(deep, 0, 0, "strike rack ((((((((1"), -9);
        Due.is("are none of the next TEXT", Due.clock(deep, 0, 0, "strike rack ((((((((1))))))));"), 0);
    }

    // "IllegalArgumentException: the place, or n ... (both keep the TAPE)"
    private static void refusedKeepTheTape() {
        ClockKeeper k = new ClockKeeper();
        Due.feed(k, "base 5;");
        Due.refused("x 100", Due.ARGUMENT, () -> k.clock(100, 0, 7));
        Due.refused("n 21", Due.ARGUMENT, () -> k.clock(0, 0, 21));
        Due.refused("n -1", Due.ARGUMENT, () -> k.clock(0, 0, -1));
        Due.is("bytes", k.count(6), 20);
        Due.is("their TEXT", k.clock(0, 0, 7), 0);
        Due.is("its RATE", k.rate(0), 5);
    }

    // "all 0 at first", "those that are true when it comes", "full at first", "0 at first", "at first: since it came"
    private static void asItComes() {
        ClockKeeper k = new ClockKeeper();
        k.leap(true);
        Due.pass(k, 60 * 1440 - 1);
        Due.clock(k, 0, 0, "run 3;strokes 7;wear 5;penny 3;strike wheel 4,5;");
        Due.is("DIAL", k.dial(0), 0);
        Due.is("DATE", k.told(0, 3), 29);
        Due.is("month", k.told(0, 4), 2);
        Due.is("LEFT", k.told(0, 0), 3 * 1440);
        Due.is("RINGS", k.told(0, 1), 7);
        Due.is("PLACE", k.told(0, 2), 0);
        Due.is("it doesn't STAND", k.told(0, 5), 0);
        Due.is("RATE", k.rate(0), 0);
        Due.is("PENNIES", k.pennies(0, 0), 0);
        k.wait(1);
        Due.is("RATE a DAY later", k.rate(0), -5);
        Due.is("it isn't midnight for it", k.told(0, 3), 29);
        Due.is("DAYS since it was OILED", k.oil(0), 1);
    }
}
