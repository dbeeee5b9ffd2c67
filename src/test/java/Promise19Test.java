/** Promise 19, mend: "MENDED: 0 what it costs, 1 how many acts, 2 whether they are LIFTS (1, 0); NONE". */
public final class Promise19Test {
    private static final String TWELVE = "strike wheel 1,2,3,4,5,6,7,8,9,10,11,12;";

    private Promise19Test() {
    }

    public static void main(String[] args) {
        nothingToDo();
        trips();
        lifts();
        costs();
        alikeCosts();
        ringsJustEnough();
        asFewAsBringIt();
        cantBe();
        mendingSo();
        rack();
        anotherWhat();
        Due.end();
    }

    private static void mended(String name, ClockKeeper k, int cost, int acts, int lifts) {
        Due.is(name + ": cost", k.mend(0, 0), cost);
        Due.is(name + ": acts", k.mend(0, 1), acts);
        Due.is(name + ": LIFTS", k.mend(0, 2), lifts);
    }

    /** IN STEP at midnight, then the wheel at that PLACE and the DIAL at that hour. */
    private static ClockKeeper at(String text, int place, int hour) {
        ClockKeeper k = Due.with(text + TWELVE);
        for (int i = 12; i > place; i--) {
            k.trip(0, false);
        }
        k.hands(0, 3600 * hour, false);
        return k;
    }

    // no acts at all, also without RINGS
    private static void nothingToDo() {
        mended("IN STEP", Due.with(TWELVE), 0, 0, 0);
        ClockKeeper spent = Due.with("strokes 1;" + TWELVE);
        spent.wait(60);
        mended("IN STEP, without RINGS", spent, 0, 0, 0);
    }

    // TRIPS: "costs 1 and as many" as the N tells
    private static void trips() {
        mended("one", at("", 0, 1), 2, 1, 0);
        mended("two", at("", 0, 2), 5, 2, 0);
        mended("seven", at("", 0, 7), 7 + 28, 7, 0);
        mended("round the last one", at("", 11, 1), 13 + 2, 2, 0);
    }

    // LIFTS: "costs 10"
    private static void lifts() {
        mended("one", at("", 1, 0), 10, 1, 1);
        mended("two", at("", 2, 0), 20, 2, 1);
        mended("round the first one", at("", 0, 11), 10, 1, 1);
        mended("four", at("", 0, 8), 40, 4, 1);
    }

    // "the one that costs less"
    private static void costs() {
        mended("seven TRIPS, 3 to 9, against five LIFTS", at("", 2, 9), 7 + 42, 7, 0);
        mended("six TRIPS, 6 to 11, against six LIFTS", at("", 5, 11), 6 + 51, 6, 0);
        mended("six TRIPS, 7 to 12, against six LIFTS", at("", 6, 0), 60, 6, 1);
        mended("eight TRIPS, 1 to 8, against four LIFTS", at("", 0, 8), 40, 4, 1);
        mended("one TRIP of 12 against eleven LIFTS", at("", 11, 0), 13, 1, 0);
    }

    // "(of alike ones TRIPS)": seven, 10 to 12 and 1 to 4, cost 50, as five LIFTS do
    private static void alikeCosts() {
        mended("alike", at("", 9, 4), 50, 7, 0);
    }

    // "which must be there": else LIFTS, though they cost more
    private static void ringsJustEnough() {
        mended("28 of 28", at("strokes 28;", 0, 7), 35, 7, 0);
        mended("28 of 27", at("strokes 27;", 0, 7), 50, 5, 1);
        mended("43 of 43", at("strokes 43;", 9, 4), 50, 7, 0);
        mended("43 of 42", at("strokes 42;", 9, 4), 50, 5, 1);
        mended("1 of 1", at("strokes 1;", 0, 1), 2, 1, 0);
        mended("3 of 1", at("strokes 1;", 0, 2), 100, 10, 1);
        ClockKeeper none = Due.with("strokes 1;" + TWELVE);
        none.wait(60);
        none.hands(0, 3600, false);
        mended("2 of 0", none, 110, 11, 1);
    }

    // "as few as bring it IN STEP": half round is enough for a wheel that tells the hours twice
    private static void asFewAsBringIt() {
        ClockKeeper k = Due.with("strike wheel 1,2,3,4,5,6,7,8,9,10,11,12,1,2,3,4,5,6,7,8,9,10,11,12;");
        mended("IN STEP", k, 0, 0, 0);
        k.trip(0, false);
        mended("one TRIP", k, 13, 1, 0);
        for (int i = 0; i < 11; i++) {
            k.trip(0, false);
        }
        mended("IN STEP again", k, 0, 0, 0);
        k.trip(0, true);
        mended("one LIFT", k, 10, 1, 1);
    }

    // "NONE: ... or it can't be"
    private static void cantBe() {
        String[] wheels = {"1", "0", "2,2,3,4,5,6,7,8,9,10,11,12", "1,2,3,4,5,6,7,8,9,10,11,0", "12,11,10,9,8,7,6,5,4,3,2,1",
            "1,2,3,4,5,6,7,8,9,10,11,12,1", "1,2,3,4,5,6,7,8,9,10,11,12,1,2,3,4,5,6,7,8,9,10,11,11"};
        for (String wheel : wheels) {
            mended("wheel " + wheel, Due.with("strike wheel " + wheel + ";"), -1, -1, -1);
        }
    }

    // what it tells, done: it is IN STEP, and not an act earlier
    private static void mendingSo() {
        for (int hour = 0; hour < 12; hour++) {
            ClockKeeper k = at("", 5, hour);
            int acts = k.mend(0, 1);
            boolean trips = k.mend(0, 2) == 0;
            int rings = k.told(0, 1);
            int cost = k.mend(0, 0);
            for (int i = 0; i < acts; i++) {
                Due.is("not yet at hour " + hour, k.told(0, 7), 0);
                k.trip(0, trips);
            }
            Due.is("IN STEP at hour " + hour, k.told(0, 7), 1);
            Due.is("its cost", cost, trips ? acts + rings - k.told(0, 1) : 10 * acts);
        }
    }

    // "NONE: it has a rack"
    private static void rack() {
        for (int what = 0; what <= 2; what++) {
            int part = what;
            Town.answers("mend(1, " + what + ") of a rack", -1, k -> k.mend(Town.RACK, part));
        }
    }

    // "IllegalArgumentException: another what.", also of a rack; no such CLOCK ahead of it
    private static void anotherWhat() {
        int[] wrong = {-1, 3, Integer.MIN_VALUE, Integer.MAX_VALUE};
        for (int what : wrong) {
            Town.refused("mend(0, " + what + ")", Due.ARGUMENT, k -> k.mend(Town.WHEEL, what));
            Town.refused("mend(1, " + what + ")", Due.ARGUMENT, k -> k.mend(Town.RACK, what));
        }
        Town.refused("mend(3, 3)", Due.ELEMENT, k -> k.mend(Town.NOBODY, 3));
        Town.needsClock("mend", (k, clock) -> k.mend(clock, 0));
        Town.answers("mend(0, 0)", 27, k -> k.mend(Town.WHEEL, 0));
    }
}
