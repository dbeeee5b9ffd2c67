/** Promise 18, trip: "A TRIP (true) or LIFT of its wheel: PLACE then; -1: it has a rack; -2: RINGS are too few." */
public final class Promise18Test {
    private Promise18Test() {
    }

    public static void main(String[] args) {
        trips();
        lifts();
        ringsJustEnough();
        ringsTooFew();
        noRingsNeeded();
        wheelOfOne();
        rack();
        noSuchClock();
        Due.end();
    }

    // "PLACE goes on by one; takes as many of RINGS as the N tells", that of the PLACE it leaves; "round"
    private static void trips() {
        ClockKeeper k = Due.with("strike wheel 3,0,4;strokes 50;");
        Due.is("from 0", k.trip(0, true), 1);
        Due.is("RINGS", k.told(0, 1), 47);
        Due.is("from 1", k.trip(0, true), 2);
        Due.is("RINGS", k.told(0, 1), 47);
        Due.is("from the last one", k.trip(0, true), 0);
        Due.is("RINGS", k.told(0, 1), 43);
        Due.is("PLACE", k.told(0, 2), 0);
        Due.is("nothing is heard", k.count(5), 0);
    }

    // "PLACE goes back by one", taking none
    private static void lifts() {
        ClockKeeper k = Due.with("strike wheel 3,5,4;strokes 1;");
        Due.is("from 0", k.trip(0, false), 2);
        Due.is("from the last one", k.trip(0, false), 1);
        Due.is("from 1", k.trip(0, false), 0);
        Due.is("RINGS stay", k.told(0, 1), 1);
        k.wait(60);
        Due.is("no RINGS", k.told(0, 1), 0);
        Due.is("without RINGS", k.trip(0, false), 0);
        Due.is("a wheel of 24", Due.with("strike wheel 1" + ",1".repeat(23) + ";").trip(0, false), 23);
    }

    // "which must be there"
    private static void ringsJustEnough() {
        ClockKeeper k = Due.with("strike wheel 12;strokes 12;");
        Due.is("12 of 12", k.trip(0, true), 0);
        Due.is("RINGS", k.told(0, 1), 0);
        ClockKeeper one = Due.with("strike wheel 1,1;strokes 1;");
        Due.is("1 of 1", one.trip(0, true), 1);
        Due.is("RINGS", one.told(0, 1), 0);
    }

    // "-2: RINGS are too few.": all stays
    private static void ringsTooFew() {
        ClockKeeper k = Due.with("strike wheel 1,12;strokes 12;");
        Due.is("1 of 12", k.trip(0, true), 1);
        Due.is("12 of 11", k.trip(0, true), -2);
        Due.is("PLACE stays", k.told(0, 2), 1);
        Due.is("RINGS stay", k.told(0, 1), 11);
        Due.is("a LIFT goes", k.trip(0, false), 0);
        Due.is("1 of 11", k.trip(0, true), 1);
        Due.is("12 of 10", k.trip(0, true), -2);
        k.wind(0, 1);
        Due.is("12 of 12", k.trip(0, true), 0);
        Due.is("1 of 0", k.trip(0, true), -2);
        Due.is("PLACE stays", k.told(0, 2), 0);
    }

    // an N of 0 takes none, so that none are too few
    private static void noRingsNeeded() {
        ClockKeeper k = Due.with("strike wheel 1,0,0;strokes 1;");
        k.trip(0, true);
        Due.is("no RINGS", k.told(0, 1), 0);
        Due.is("0 of 0", k.trip(0, true), 2);
        Due.is("0 of 0", k.trip(0, true), 0);
        Due.is("1 of 0", k.trip(0, true), -2);
    }

    private static void wheelOfOne() {
        ClockKeeper k = Due.with("strike wheel 5;");
        Due.is("a TRIP", k.trip(0, true), 0);
        Due.is("RINGS", k.told(0, 1), 395);
        Due.is("a LIFT", k.trip(0, false), 0);
        Due.is("RINGS", k.told(0, 1), 395);
    }

    // "-1: it has a rack": TRIP or LIFT
    private static void rack() {
        Town.answers("a TRIP of a rack", -1, k -> k.trip(Town.RACK, true));
        Town.answers("a LIFT of a rack", -1, k -> k.trip(Town.RACK, false));
        ClockKeeper spent = Due.with("strokes 1;strike rack 5;");
        spent.wait(60);
        Due.is("a rack without RINGS", spent.trip(0, true), -1);
    }

    private static void noSuchClock() {
        Town.needsClock("trip", (k, clock) -> k.trip(clock, true));
        Town.needsClock("trip back", (k, clock) -> k.trip(clock, false));
    }
}
