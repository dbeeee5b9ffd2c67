/** Promise 17, refit: "The first n bytes of the TAPE (empty then) are a new TEXT of a CLOCK". */
public final class Promise17Test {
    private static final String OLD = "run 4;base 10;penny 2;wear 3;strokes 150;strike wheel 1,2,3;calendar months;reach 9;";

    private Promise17Test() {
    }

    public static void main(String[] args) {
        aNewText();
        theTape();
        whatStays();
        notMoreThanFull();
        fullerThanBefore();
        placeIsNought();
        theOldOneStays();
        oneBehindAnother();
        keptAndHeard();
        refused();
        Due.end();
    }

    // a whole new TEXT: what it doesn't tell is as without, not as it was
    private static void aNewText() {
        ClockKeeper k = Due.with(OLD);
        k.pennies(0, 1);
        Due.is("RATE", k.rate(0), 12);
        Due.is("refit", Due.refit(k, 0, ""), 1);
        Due.is("no FAULT", k.fault(), -1);
        Due.is("base 0, penny 4", k.rate(0), 4);
        Due.is("a rack", k.told(0, 2), -1);
        k.wind(0, 0);
        Due.is("run 8", k.told(0, 0), 8 * 1440);
        k.wind(0, 1);
        Due.is("strokes 400", k.told(0, 1), 400);
        Due.is("refit", Due.refit(k, 0, "base 7;strike wheel 5;"), 1);
        Due.is("base 7", k.rate(0), 11);
        Due.is("a wheel", k.told(0, 8), 5);
    }

    // "(empty then)"; "n is not 0 to the TAPE's bytes (it keeps the TAPE)"
    private static void theTape() {
        ClockKeeper k = Due.with("");
        Due.refused("1 byte of none", Due.ARGUMENT, () -> k.refit(0, 1));
        Due.is("none of none", k.refit(0, 0), 1);
        Due.feed(k, "base 1;base 2;   ;");
        Due.refused("n -1", Due.ARGUMENT, () -> k.refit(0, -1));
        Due.refused("n 21", Due.ARGUMENT, () -> k.refit(0, 21));
        Due.is("the TAPE is kept", k.count(6), 20);
        Due.is("the first 7 of it", k.refit(0, 7), 1);
        Due.is("RATE", k.rate(0), 1);
        Due.is("the TAPE is empty", k.count(6), 0);
        Due.feed(k, "base 1;base 2;     x");
        Due.is("all 20", k.refit(0, 20), -9);
        Due.is("its place", k.fault(), 19);
        Due.is("the TAPE is empty", k.count(6), 0);
        String full = " ".repeat(392) + "base 99;";
        Due.is("400 bytes", Due.refit(k, 0, full), 1);
        Due.is("RATE", k.rate(0), 99);
    }

    // "DIAL, DATE, PENNIES and when it was OILED stay"
    private static void whatStays() {
        ClockKeeper k = Due.with(OLD);
        k.wait(3000);
        k.pennies(0, 5);
        int dial = k.dial(0);
        Due.is("refit", Due.refit(k, 0, "run 9;strokes 160;penny 3;wear 100;"), 1);
        Due.is("DIAL", k.dial(0), dial);
        Due.is("DATE", k.told(0, 3), 3);
        Due.is("month", k.told(0, 4), 1);
        Due.is("PENNIES, and DAYS since it was OILED", k.rate(0), 15 - 200);
        Due.is("its place", k.heard(0, 0, 2999, 0) > 0 ? 1 : 0, 1);
        Due.is("PENNIES", k.pennies(0, 0), 5);
        Due.is("OILED", k.oil(0), 2);
    }

    // "LEFT and RINGS are what they were, but not more than full"
    private static void notMoreThanFull() {
        int[] lefts = {1441, 1440, 1439};
        for (int left : lefts) {
            ClockKeeper k = Due.with("run 2;");
            k.wait(2880 - left);
            Due.is("refit", Due.refit(k, 0, "run 1;"), 1);
            Due.is("LEFT of " + left, k.told(0, 0), Math.min(left, 1440));
        }
        int[] strokes = {9, 10, 11};
        for (int s : strokes) {
            ClockKeeper k = Due.with("strokes 10;");
            Due.is("refit", Due.refit(k, 0, "strokes " + s + ";"), 1);
            Due.is("RINGS of 10 by strokes " + s, k.told(0, 1), Math.min(10, s));
        }
        ClockKeeper none = Due.with("run 1;strokes 1;");
        none.wait(1440);
        Due.is("refit", Due.refit(none, 0, "run 31;strokes 2000;"), 1);
        Due.is("none LEFT", none.told(0, 0), 0);
        Due.is("it STANDS", none.told(0, 5), 1);
        Due.is("no RINGS", none.told(0, 1), 0);
    }

    // a longer run: more minutes are gone of it
    private static void fullerThanBefore() {
        ClockKeeper k = Due.with("run 1;pull 10;");
        Due.is("RATE when full", k.rate(0), 0);
        Due.is("refit", Due.refit(k, 0, "run 2;pull 10;"), 1);
        Due.is("LEFT", k.told(0, 0), 1440);
        Due.is("RATE when half is gone", k.rate(0), -50);
        Due.is("wound", k.wind(0, 0), 1440);
        Due.is("full", k.told(0, 0), 2880);
    }

    // "PLACE is 0", also of the same wheel once more
    private static void placeIsNought() {
        ClockKeeper k = Due.with("strike wheel 1,2,3;");
        k.trip(0, true);
        k.trip(0, true);
        Due.is("PLACE", k.told(0, 2), 2);
        Due.is("refit", Due.refit(k, 0, "strike wheel 1,2,3;"), 1);
        Due.is("PLACE of the new one", k.told(0, 2), 0);
        k.trip(0, false);
        Due.refit(k, 0, "");
        Due.refit(k, 0, "strike wheel 7;");
        Due.is("PLACE of a wheel of one", k.told(0, 2), 0);
        Due.is("its N", k.told(0, 8), 7);
    }

    // "or its FAULT less 10 (the old one stays)"
    private static void theOldOneStays() {
        ClockKeeper k = Due.with(OLD);
        k.wait(3000);
        String before = Town.state(k);
        Due.is("faulty", Due.refit(k, 0, "run 9;strike rack 3;base 1;run 99;"), -8);
        Due.is("its place", k.fault(), 31);
        Due.is("the TAPE is empty", k.count(6), 0);
        Due.is("faulty", Due.refit(k, 0, "run 1;".repeat(17)), -7);
        Due.is("faulty", Due.refit(k, 0, "run 1"), -9);
        Due.same("the old one", Town.state(k), before.replace("fault -1", "fault 5"));
        k.wind(0, 0);
        Due.is("its run", k.told(0, 0), 4 * 1440);
    }

    // nothing of a TEXT that was, or of a faulty one, stays in those behind it, or in another CLOCK
    private static void oneBehindAnother() {
        ClockKeeper k = Due.with(OLD);
        Due.is("refit", Due.refit(k, 0, "base 5;strike wheel 9;silent 20-23 stopped;"), 1);
        Due.is("faulty behind it", Due.refit(k, 0, "base 6;strike wheel 8;strike rack 1+"), -9);
        Due.is("RATE stays", k.rate(0), 5);
        Due.is("the wheel stays", k.told(0, 8), 9);
        Due.is("another CLOCK", Due.clock(k, 0, 0, "base 7;"), 1);
        Due.is("RATE of the first stays", k.rate(0), 5);
        Due.is("RATE of the second", k.rate(1), 7);
        Due.is("refit of the second", Due.refit(k, 1, "base 8;strike wheel 7;"), 1);
        Due.is("refit of the first", Due.refit(k, 0, ""), 1);
        Due.is("RATE of the first", k.rate(0), 0);
        Due.is("its rack", k.told(0, 8), 1);
        Due.is("RATE of the second", k.rate(1), 8);
        Due.is("refit of the first", Due.refit(k, 0, "strike rack hour+5;"), 1);
        Due.is("refit of the first", Due.refit(k, 0, ""), 1);
        Due.is("its rack", k.told(0, 8), 1);
        k.hands(0, 12 * 3600, false);
        k.hands(0, 8 * 3600 - 60, false);
        k.wait(1);
        Due.is("never silent", k.sounding(0, 3), 8);
    }

    // DIALS that are kept stay kept; its SOUNDINGS are heard as far as it reaches now
    private static void keptAndHeard() {
        ClockKeeper k = Due.with("reach 9;base 10;");
        k.wait(120);
        Due.is("heard", k.heard(9, 0, 59, 0), 1);
        Due.refit(k, 0, "reach 8;");
        Due.is("not any more", k.heard(9, 0, 59, 0), 0);
        Due.is("but nearer", k.heard(8, 0, 59, 0), 1);
        Due.is("kept", k.kept(0, 1), 3600036);
        Due.is("SOUNDINGS", k.count(5), 2);
    }

    // no such CLOCK, then n, then the FAULT
    private static void refused() {
        int[] wrong = {-1, 21, Integer.MIN_VALUE, Integer.MAX_VALUE};
        for (int n : wrong) {
            Town.refused("refit(0, " + n + ")", Due.ARGUMENT, k -> k.refit(0, n));
        }
        Town.refused("refit(3, 21)", Due.ELEMENT, k -> k.refit(Town.NOBODY, 21));
        Town.needsClock("refit", (k, clock) -> k.refit(clock, 6));
    }
}
