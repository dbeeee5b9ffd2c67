/** Promise 31, law: "A word of the LAW: how many there are; -1: 40." */
public final class Promise31Test {
    private Promise31Test() {
    }

    public static void main(String[] args) {
        fortyAndOneMore();
        alikeWords();
        minutes();
        twoReasons();
        noSuchClock();
        Due.end();
    }

    // "40 such words at most"
    private static void fortyAndOneMore() {
        ClockKeeper k = Due.with("");
        k.clock(0, 0, 0);
        for (int i = 1; i <= 40; i++) {
            Due.is("word " + i, k.law(i % 2, i), i);
        }
        Due.is("the 40th counts", k.lawful(40, 0), 0);
        Due.is("the 39th counts", k.lawful(39, 0), 1);
        Due.is("one more", k.law(1, 50), -1);
        Due.is("one more for a MINUTE that has one", k.law(1, 40), -1);
        Due.is("words", k.count(4), 40);
        Due.is("none of them counts", k.lawful(100000, 100000), 0);
        k.wait(1);
        Due.is("nor later", k.law(1, 0), -1);
    }

    // the same word again is one more
    private static void alikeWords() {
        ClockKeeper k = Due.with("");
        Due.is("the first", k.law(0, 5), 1);
        Due.is("the same", k.law(0, 5), 2);
        Due.is("words", k.count(4), 2);
    }

    // "IllegalArgumentException: the MINUTE is not 0 to 100,000.": past or to come
    private static void minutes() {
        int[] wrong = {-1, 100001, Integer.MIN_VALUE, Integer.MAX_VALUE};
        for (int from : wrong) {
            Town.refused("law(0, " + from + ")", Due.ARGUMENT, k -> k.law(0, from));
        }
        ClockKeeper k = Due.with("");
        k.clock(0, 0, 0);
        k.wait(10);
        Due.is("the last MINUTE", k.law(0, 100000), 1);
        Due.is("it is lawful then", k.lawful(100000, 10), 0);
        Due.is("and not ahead", k.lawful(99999, 10), -1);
        Due.is("the first MINUTE", k.law(1, 0), 2);
        Due.is("it is lawful then", k.lawful(0, 10), 1);
    }

    // no such CLOCK, then the MINUTE, then 40
    private static void twoReasons() {
        Town.refused("law(3, -1)", Due.ELEMENT, k -> k.law(Town.NOBODY, -1));
        ClockKeeper k = Due.with("");
        for (int i = 0; i < 40; i++) {
            k.law(0, i);
        }
        Due.refused("MINUTE -1 of a 41st", Due.ARGUMENT, () -> k.law(0, -1));
        Due.refused("MINUTE 100,001 of a 41st", Due.ARGUMENT, () -> k.law(0, 100001));
        Due.refused("no such CLOCK of a 41st", Due.ELEMENT, () -> k.law(1, 0));
        Due.is("a 41st", k.law(0, 0), -1);
    }

    private static void noSuchClock() {
        Town.needsClock("law", (k, clock) -> k.law(clock, 0));
    }
}
