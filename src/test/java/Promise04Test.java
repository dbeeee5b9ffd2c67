/** Promise 4, feed: the TAPE. */
public final class Promise04Test {
    private Promise04Test() {
    }

    public static void main(String[] args) {
        highestFirst();
        fromTheLeastToTheMost();
        fullTape();
        doesNothing();
        emptyAgain();
        Due.end();
    }

    // "Twenty bytes come on the TAPE, of each number the highest first: how many there are"
    private static void highestFirst() {
        ClockKeeper k = new ClockKeeper();
        // "base", " 123", ";   ", "   r", "un 3", and ";"
        Due.is("the first", k.feed(0x62617365, 0x20313233, 0x3b202020, 0x20202072, 0x756e2033), 20);
        Due.is("the second", k.feed(0x3b000000, 0, 0, 0, 0), 40);
        Due.is("bytes", k.count(6), 40);
        Due.is("a CLOCK of 21", k.clock(0, 0, 21), 0);
        Due.is("its base", k.rate(0), 123);
        Due.is("its run", k.told(0, 0), 3 * 1440);
    }

    // a byte is 0 to 255 whatever its number's sign
    private static void fromTheLeastToTheMost() {
        int[] numbers = {Integer.MIN_VALUE, Integer.MAX_VALUE, -1, 0};
        for (int n : numbers) {
            ClockKeeper k = new ClockKeeper();
            Due.is("feed of " + n, k.feed(0x20202020, n, n, n, n), 20);
            Due.is("no TEXT", k.clock(0, 0, 20), -9);
            Due.is("its place", k.fault(), 4);
        }
        ClockKeeper low = new ClockKeeper();
        low.feed(0x2020203b, 0, 0, 0, 0);
        Due.is("the lowest byte is the last", low.clock(0, 0, 4), -9);
        Due.is("its place", low.fault(), 3);
        ClockKeeper sign = new ClockKeeper();
        sign.feed(0xa0202020, 0, 0, 0, 0);
        Due.is("160 is no blank", sign.clock(0, 0, 4), -9);
        Due.is("its place", sign.fault(), 0);
    }

    // "NONE, doing nothing, if there would be more than 400": 400 themselves may be
    private static void fullTape() {
        ClockKeeper k = new ClockKeeper();
        for (int i = 1; i <= 20; i++) {
            Due.is("feed " + i, k.feed(i, i, i, i, i), 20 * i);
        }
        Due.is("one more", k.feed(0, 0, 0, 0, 0), -1);
        Due.is("bytes", k.count(6), 400);
        Due.is("and one more", k.feed(1, 2, 3, 4, 5), -1);
        Due.is("bytes", k.count(6), 400);
    }

    // "doing nothing": the 400 bytes are still those that were there
    private static void doesNothing() {
        ClockKeeper k = new ClockKeeper();
        String text = "base 5;" + " ".repeat(386) + "reach 7";
        Due.is("400 bytes", Due.feed(k, text), 400);
        Due.is("more", k.feed(-1, -1, -1, -1, -1), -1);
        Due.is("the TEXT ends too early", k.clock(0, 0, 400), -9);
        Due.is("at its length", k.fault(), 400);
        Due.feed(k, " ".repeat(393) + "reach 7;".substring(1));
        Due.is("a TEXT's end", k.clock(0, 0, 400), -9);
        Due.is("its place", k.fault(), 393);
        Due.feed(k, " ".repeat(392) + "reach 7;");
        Due.is("more", k.feed(-1, -1, -1, -1, -1), -1);
        Due.is("a TEXT of 400", k.clock(0, 0, 400), 0);
        k.wait(60);
        Due.is("within its reach", k.heard(3, 4, 59, 0), 1);
        Due.is("outside of it", k.heard(4, 4, 59, 0), 0);
    }

    // "(empty then)": a TAPE that was full takes 400 bytes again
    private static void emptyAgain() {
        ClockKeeper k = new ClockKeeper();
        Due.is("400 bytes", Due.feed(k, " ".repeat(400)), 400);
        Due.is("taken in part", k.clock(0, 0, 1), 0);
        Due.is("bytes", k.count(6), 0);
        for (int i = 1; i <= 20; i++) {
            Due.is("feed " + i, k.feed(0, 0, 0, 0, 0), 20 * i);
        }
        Due.is("one more", k.feed(0, 0, 0, 0, 0), -1);
    }
}
