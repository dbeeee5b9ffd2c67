/** Promises 26 to 33: READINGS, what is reckoned of them, the LAW, and the DIALS that are kept. */
public final class KnowledgeTest {
    private KnowledgeTest() {
    }

    public static void main(String[] args) {
        readings();
        reckoned();
        knownThenAndNow();
        speeds();
        regulated();
        beyond();
        law();
        lawful();
        kept();
        Due.end();
    }

    private static void readings() {
        ClockKeeper k = Due.with("");
        k.wait(50);
        Due.is("one", k.read(0, 0, 100000000), 1);
        Due.is("one of now", k.read(0, 50, -100000000), 2);
        Due.is("another for that MINUTE counts too", k.read(0, 50, 0), 3);
        Due.refused("MINUTE -1", Due.ARGUMENT, () -> k.read(0, -1, 0));
        Due.refused("a MINUTE to come", Due.ARGUMENT, () -> k.read(0, 51, 0));
        Due.refused("ERROR too big", Due.ARGUMENT, () -> k.read(0, 0, 100000001));
        Due.refused("ERROR too small", Due.ARGUMENT, () -> k.read(0, 0, -100000001));
        Due.refused("no such clock", Due.ELEMENT, () -> k.read(1, -1, 0));
        for (int i = 4; i <= 100; i++) {
            Due.is("reading", k.read(0, 1, i), i);
        }
        Due.is("the 101st", k.read(0, 1, 0), -1);
        Due.refused("MINUTE -1 of the 101st", Due.ARGUMENT, () -> k.read(0, -1, 0));
        Due.is("count", k.count(3), 100);
        Due.is("the last one that was taken", k.reckoned(0, 1, 50), 100);
    }

    private static void reckoned() {
        ClockKeeper k = Due.with("");
        k.clock(0, 0, 0);
        k.wait(100);
        Due.is("without any", k.reckoned(0, 5, 100), -2000000000);
        k.read(0, 20, 7);
        Due.is("by one alone", k.reckoned(0, 99999, 100), 7);
        k.read(0, 10, 4);
        Due.is("told late", k.reckoned(0, 20, 100), 7);
        Due.is("rounded down", k.reckoned(0, 21, 100), 7);
        Due.is("3 in 10", k.reckoned(0, 24, 100), 8);
        Due.is("rounded down behind", k.reckoned(0, 19, 100), 6);
        Due.is("at 0", k.reckoned(0, 0, 100), 1);
        Due.is("at most", k.reckoned(0, 100000, 100), 7 + 3L * 99980 / 10);
        k.read(0, 5, 1000);
        Due.is("an older one says nothing", k.reckoned(0, 24, 100), 8);
        k.read(0, 30, -100000000);
        Due.is("a later one does", k.reckoned(0, 100000, 100), -100000000 + Math.floorDiv(-100000007L * 99970, 10));
        Due.is("of another clock", k.reckoned(1, 24, 100), -2000000000);
        Due.refused("MINUTE -1", Due.ARGUMENT, () -> k.reckoned(0, -1, 100));
        Due.refused("MINUTE 100001", Due.ARGUMENT, () -> k.reckoned(0, 100001, 100));
        Due.refused("no such clock", Due.ELEMENT, () -> k.reckoned(2, -1, 100));
    }

    private static void knownThenAndNow() {
        ClockKeeper k = Due.with("");
        k.wait(100);
        k.read(0, 10, 0);
        k.read(0, 20, 10);
        k.wait(10);
        k.read(0, 20, 30);
        k.wait(10);
        k.read(0, 10, 20);
        k.read(0, 15, 25);
        k.read(0, 15, 20);
        Due.is("before all", k.reckoned(0, 40, 99), -2000000000);
        Due.is("before all", k.reckoned(0, 40, Integer.MIN_VALUE), -2000000000);
        Due.is("at first", k.reckoned(0, 40, 100), 30);
        Due.is("before the second", k.reckoned(0, 40, 109), 30);
        Due.is("with the second", k.reckoned(0, 40, 110), 90);
        Due.is("with all", k.reckoned(0, 40, 120), 30 + 2 * 20);
        Due.is("later", k.reckoned(0, 40, Integer.MAX_VALUE), 70);
        Due.is("speed then", k.speed(0, 119), 3000 / 60);
        Due.is("beyond then", k.beyond(0, 100, 109), 111);
        Due.is("beyond now", k.beyond(0, 100, 120), 56);
    }

    private static void speeds() {
        ClockKeeper k = Due.with("");
        k.wait(1000);
        k.read(0, 0, 0);
        Due.is("by one alone", k.speed(0, 1000), -2000000000);
        k.read(0, 7, 1);
        Due.is("1 in 7", k.speed(0, 1000), 2);
        k.read(0, 14, 0);
        Due.is("-1 in 7, rounded down", k.speed(0, 1000), -3);
        k.read(0, 15, 100000000);
        Due.is("much in one", k.speed(0, 1000), 100000000L * 1000 / 60);
        k.read(0, 16, -100000000);
        Due.is("more than 32 bits", k.speed(0, 1000), -3333333334L);
        Due.is("as it was known", k.speed(0, 999), -2000000000);
        Due.refused("no such clock", Due.ELEMENT, () -> k.speed(1, 1000));
    }

    private static void regulated() {
        ClockKeeper k = Due.with("penny 10;");
        k.wait(1000);
        k.read(0, 0, 0);
        Due.is("by one alone", k.regulated(0, 1000), -2000000000);
        k.read(0, 100, 270);
        Due.is("45 by 10: of alike ones the least", k.regulated(0, 1000), -5);
        k.read(0, 200, 540 - 6);
        Due.is("44", k.regulated(0, 1000), -4);
        k.pennies(0, 7);
        Due.is("from its PENNIES now", k.regulated(0, 1000), 3);
        k.pennies(0, -18);
        Due.is("as many as can be", k.regulated(0, 1000), -20);
        Due.refit(k, 0, "penny 0;");
        Due.is("all alike", k.regulated(0, 1000), -20);
        Due.refit(k, 0, "penny 1;");
        k.read(0, 201, -100000000);
        Due.is("far too slow", k.regulated(0, 1000), 20);
        Due.is("as it was known", k.regulated(0, 999), -2000000000);
        Due.refused("no such clock", Due.ELEMENT, () -> k.regulated(1, 1000));
    }

    private static void beyond() {
        ClockKeeper k = Due.with("");
        k.wait(1000);
        Due.is("without any", k.beyond(0, 0, 1000), -1);
        k.read(0, 100, 50);
        Due.is("by one alone: never", k.beyond(0, 50, 1000), -1);
        Due.is("by one alone: at once", k.beyond(0, 49, 1000), 100);
        k.read(0, 200, 51);
        Due.is("at once", k.beyond(0, 50, 1000), 200);
        Due.is("at the bound isn't beyond", k.beyond(0, 51, 1000), 300);
        Due.is("up to MINUTE 200,000", k.beyond(0, 2048, 1000), 200000);
        Due.is("not up to it", k.beyond(0, 2049, 1000), -1);
        k.read(0, 300, 50);
        Due.is("falling: past the other bound", k.beyond(0, 50, 1000), 300 + 10000 + 1);
        Due.is("falling", k.beyond(0, 55, 1000), 300 + 10500 + 1);
        k.read(0, 400, 50);
        Due.is("neither", k.beyond(0, 50, 1000), -1);
        Due.is("neither, but at once", k.beyond(0, 0, 1000), 400);
        k.read(0, 1000, 100000000);
        Due.is("never so much at first", k.beyond(0, 100000000, 1000), 1001);
        k.clock(0, 0, 0);
        k.read(1, 0, 0);
        k.read(1, 1, 1);
        Due.is("in MINUTE 200,000", k.beyond(1, 199999, 1000), 200000);
        Due.is("in MINUTE 200,001", k.beyond(1, 200000, 1000), -1);
        Due.refused("bound -1", Due.ARGUMENT, () -> k.beyond(0, -1, 1000));
        Due.refused("bound too big", Due.ARGUMENT, () -> k.beyond(0, 100000001, 1000));
        Due.refused("no such clock", Due.ELEMENT, () -> k.beyond(2, -1, 1000));
    }

    private static void law() {
        ClockKeeper k = Due.with("");
        Due.is("one to come", k.law(0, 100000), 1);
        Due.is("one of now", k.law(0, 0), 2);
        Due.refused("MINUTE -1", Due.ARGUMENT, () -> k.law(0, -1));
        Due.refused("MINUTE 100001", Due.ARGUMENT, () -> k.law(0, 100001));
        Due.refused("no such clock", Due.ELEMENT, () -> k.law(1, -1));
        for (int i = 3; i <= 40; i++) {
            Due.is("word", k.law(0, i), i);
        }
        Due.is("the 41st", k.law(0, 0), -1);
        Due.refused("MINUTE -1 of the 41st", Due.ARGUMENT, () -> k.law(0, -1));
        Due.is("count", k.count(4), 40);
    }

    private static void lawful() {
        ClockKeeper k = Due.with("");
        k.clock(0, 0, 0);
        k.clock(0, 0, 0);
        k.wait(100);
        k.law(0, 50);
        k.wait(10);
        k.law(1, 80);
        k.wait(10);
        k.law(2, 50);
        k.law(0, 0);
        Due.is("none known", k.lawful(60, 99), -1);
        Due.is("none begun", k.lawful(49, 119), -1);
        Due.is("the word told late begins earlier", k.lawful(49, 120), 0);
        Due.is("the first", k.lawful(50, 100), 0);
        Due.is("the second isn't begun", k.lawful(79, 110), 0);
        Due.is("the second", k.lawful(80, 110), 1);
        Due.is("as known before", k.lawful(80, 109), 0);
        Due.is("of alike ones the last told", k.lawful(79, 120), 2);
        Due.is("the latest begun", k.lawful(100000, 120), 1);
        Due.is("any MINUTE", k.lawful(Integer.MAX_VALUE, Integer.MAX_VALUE), 1);
        Due.is("below 0", k.lawful(-1, 120), -1);
        Due.is("below 0", k.lawful(Integer.MIN_VALUE, 120), -1);
    }

    private static void kept() {
        ClockKeeper k = Due.with("base 10;");
        Due.is("not yet", k.kept(0, 0), -1);
        k.hands(0, 7, false);
        k.wait(1);
        Due.is("once it goes by", k.kept(0, 0), 7000);
        k.wait(59);
        Due.is("not as it begins", k.kept(0, 1), -1);
        k.clock(0, 0, 0);
        k.hands(0, -7, false);
        k.wait(1);
        Due.is("as its first MINUTE begins", k.kept(0, 1), 3600036);
        Due.is("a clock that came then", k.kept(1, 1), 0);
        Due.is("not before it came", k.kept(1, 0), -1);
        k.clock(0, 0, 0);
        k.wait(200);
        Due.is("came in the midst of an hour", k.kept(2, 1), -1);
        Due.is("the next one", k.kept(2, 2), 59 * 60000);
        Due.is("refitting keeps it", Due.refit(k, 0, ""), 1);
        Due.is("it is kept", k.kept(0, 1), 3600036);
        Due.is("below 0", k.kept(0, -1), -1);
        Due.is("any hour", k.kept(0, Integer.MAX_VALUE), -1);
        Due.is("any hour", k.kept(0, Integer.MIN_VALUE), -1);
        Due.refused("no such clock", Due.ELEMENT, () -> k.kept(3, 0));
        ClockKeeper long0 = Due.with("run 1;");
        Due.pass(long0, 100000);
        Due.is("one that STANDS", long0.kept(0, 1666), 0);
        Due.is("none behind", long0.kept(0, 1667), -1);
    }
}
