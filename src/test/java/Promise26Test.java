/** Promise 26, read: "A READING: how many there are; -1: 100." */
public final class Promise26Test {
    private Promise26Test() {
    }

    public static void main(String[] args) {
        howManyThereAre();
        hundredAndOneMore();
        minutes();
        errors();
        twoReasons();
        noSuchClock();
        Due.end();
    }

    // one for the same CLOCK and MINUTE is one more, too: the earlier one is KNOWN still in earlier MINUTES
    private static void howManyThereAre() {
        ClockKeeper k = Due.with("");
        k.clock(0, 0, 0);
        k.wait(10);
        Due.is("the first", k.read(0, 5, 1), 1);
        Due.is("of the other CLOCK", k.read(1, 5, 1), 2);
        Due.is("of another MINUTE", k.read(0, 6, 1), 3);
        Due.is("of the same MINUTE", k.read(0, 5, 2), 4);
        Due.is("the same once more", k.read(0, 5, 2), 5);
        Due.is("READINGS", k.count(3), 5);
    }

    // "READINGS, 100 at most"
    private static void hundredAndOneMore() {
        ClockKeeper k = Due.with("");
        k.clock(0, 0, 0);
        k.wait(200);
        for (int i = 1; i <= 100; i++) {
            Due.is("READING " + i, k.read(i % 2, i, i), i);
        }
        Due.is("the 100th", k.reckoned(0, 100, 200), 100);
        Due.is("one more", k.read(0, 200, 5), -1);
        Due.is("one more of the other CLOCK", k.read(1, 200, 5), -1);
        Due.is("one more for a MINUTE that has one", k.read(0, 100, 5), -1);
        Due.is("READINGS", k.count(3), 100);
        Due.is("none of them counts", k.reckoned(0, 100, 200), 100);
        Due.is("nor of the other CLOCK", k.reckoned(1, 99, 200), 99);
        k.wait(1);
        Due.is("nor later", k.reckoned(0, 100, 300), 100);
        Due.is("still 100", k.read(0, 0, 0), -1);
    }

    // "at a MINUTE up to now"; "the MINUTE is below 0 or above now"
    private static void minutes() {
        int[] wrong = {-1, Town.MINUTE + 1, 100000, Integer.MIN_VALUE, Integer.MAX_VALUE};
        for (int minute : wrong) {
            Town.refused("read(0, " + minute + ", 0)", Due.ARGUMENT, k -> k.read(0, minute, 0));
        }
        ClockKeeper k = Due.with("");
        Due.is("MINUTE 0 in MINUTE 0", k.read(0, 0, 7), 1);
        Due.refused("MINUTE 1 in MINUTE 0", Due.ARGUMENT, () -> k.read(0, 1, 7));
        k.wait(10);
        Due.is("now", k.read(0, 10, 17), 2);
        Due.is("they are reckoned by", k.reckoned(0, 20, 10), 27);
        ClockKeeper late = new ClockKeeper();
        late.wait(10);
        late.clock(0, 0, 0);
        Due.is("a MINUTE ahead of the CLOCK", late.read(0, 3, 5), 1);
        Due.pass(late, 99990);
        Due.is("the last MINUTE", late.read(0, 100000, 5), 2);
    }

    // "an ERROR (thousandths of a second, -100,000,000 to 100,000,000)"
    private static void errors() {
        int[] wrong = {-100000001, 100000001, Integer.MIN_VALUE, Integer.MAX_VALUE};
        for (int error : wrong) {
            Town.refused("read(0, 0, " + error + ")", Due.ARGUMENT, k -> k.read(0, 0, error));
        }
        ClockKeeper k = Due.with("");
        k.wait(1);
        Due.is("the most", k.read(0, 0, 100000000), 1);
        Due.is("it counts", k.reckoned(0, 0, 1), 100000000);
        Due.is("the least", k.read(0, 1, -100000000), 2);
        Due.is("it counts", k.reckoned(0, 1, 1), -100000000);
    }

    // no such CLOCK, then the MINUTE or the ERROR, then 100
    private static void twoReasons() {
        Town.refused("read(3, -1, 0)", Due.ELEMENT, k -> k.read(Town.NOBODY, -1, 0));
        Town.refused("read(3, 0, 100000001)", Due.ELEMENT, k -> k.read(Town.NOBODY, 0, 100000001));
        ClockKeeper k = Due.with("");
        for (int i = 0; i < 100; i++) {
            k.read(0, 0, i);
        }
        Due.refused("MINUTE -1 of a 101st", Due.ARGUMENT, () -> k.read(0, -1, 0));
        Due.refused("MINUTE 1 of a 101st", Due.ARGUMENT, () -> k.read(0, 1, 0));
        Due.refused("ERROR of a 101st", Due.ARGUMENT, () -> k.read(0, 0, 100000001));
        Due.refused("no such CLOCK of a 101st", Due.ELEMENT, () -> k.read(1, 0, 0));
        Due.is("a 101st", k.read(0, 0, 0), -1);
    }

    private static void noSuchClock() {
        Town.needsClock("read", (k, clock) -> k.read(clock, 0, 0));
    }
}
