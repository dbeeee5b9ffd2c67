/** Promises 18 to 22 (and what 11 tells of wheels): SOUNDINGS, wheels out of step, what is heard where. */
public final class StrikingTest {
    private static final String HOURS = "strike wheel 1,2,3,4,5,6,7,8,9,10,11,12;";

    private StrikingTest() {
    }

    public static void main(String[] args) {
        soundings();
        ringsRunOut();
        silentNights();
        latestAreKept();
        trips();
        inStep();
        mending();
        hearing();
        hearingTogether();
        hearingEdges();
        witnesses();
        Due.end();
    }

    private static void soundings() {
        ClockKeeper k = new ClockKeeper();
        Due.clock(k, 0, 0, "quarters 1 0 3 4;base 500;");
        Due.clock(k, 0, 0, "quarters 1 0 3 4;base -500;");
        k.wait(15);
        // 60 * 870,000 less 60 * 14 * 500 millionths are missing of 60,030,000
        Due.is("SECOND cut", k.sounding(0, 1), 14 * 60 + 59);
        Due.is("the slow one is late", k.count(5), 1);
        k.wait(1);
        Due.is("now it sounds", k.sounding(0, 0), 1);
        Due.is("SECOND", k.sounding(0, 1), 900);
        Due.is("CHIME", k.sounding(0, 2), 1);
        Due.is("no STRIKE", k.sounding(0, 3), 0);
        k.wait(15);
        Due.is("a quarter without a stroke is none", k.count(5), 2);
        k.wait(30);
        Due.is("all so far", k.count(5), 6);
        Due.is("CHIME of the hour", k.sounding(0, 2), 4);
        Due.is("STRIKE", k.sounding(0, 3), 1);
        Due.is("the clock", k.sounding(0, 0), 1);
        Due.is("the one ahead", k.sounding(1, 0), 0);
        Due.is("its SECOND", k.sounding(1, 1), 59 * 60 + 58);
        Due.is("the first", k.sounding(5, 1), 899);
        Due.is("none ahead of it", k.sounding(6, 1), -1);
        Due.is("none behind the latest", k.sounding(-1, 1), -1);
        Due.refused("what -1", Due.ARGUMENT, () -> k.sounding(0, -1));
        Due.refused("what 4", Due.ARGUMENT, () -> k.sounding(99, 4));
        ClockKeeper right = Due.with("");
        right.wait(60);
        Due.is("59 at most", right.sounding(0, 1), 3599);
    }

    private static void ringsRunOut() {
        ClockKeeper k = Due.with("quarters 0 0 0 3;strike wheel 5,6,7;strokes 10;");
        k.wait(60);
        Due.is("8 taken", k.told(0, 1), 2);
        Due.is("PLACE", k.told(0, 2), 1);
        k.wait(60);
        Due.is("a CHIME cut short", k.sounding(0, 2), 2);
        Due.is("no STRIKE", k.sounding(0, 3), 0);
        Due.is("the wheel stays", k.told(0, 2), 1);
        k.wait(60);
        Due.is("nothing sounds", k.count(5), 2);
        k.wind(0, 1);
        Due.refit(k, 0, "quarters 0 0 0 3;strike wheel 5,6,7;strokes 4;");
        k.wait(60);
        Due.is("a STRIKE cut short", k.sounding(0, 3), 1);
        Due.is("the wheel goes on", k.told(0, 2), 1);
    }

    private static void silentNights() {
        ClockKeeper k = new ClockKeeper();
        Due.clock(k, 0, 0, "silent 23-2 held;quarters 0 0 1 0;" + HOURS);
        Due.clock(k, 0, 0, "silent 23-2 stopped;quarters 0 0 1 0;" + HOURS);
        Due.clock(k, 0, 0, "silent 5-5 stopped;");
        k.wait(60);
        Due.is("only the third is heard", k.count(5), 1);
        Due.is("held: RINGS go", k.told(0, 1), 398);
        Due.is("held: PLACE goes", k.told(0, 2), 1);
        Due.is("stopped: RINGS stay", k.told(1, 1), 400);
        Due.is("stopped: PLACE stays", k.told(1, 2), 0);
        k.wait(60);
        Due.is("hour 2 is heard, of three", k.count(5), 4);
        Due.is("stopped: PLACE goes then", k.told(1, 2), 1);
        Due.is("alike: never", k.sounding(0, 0), 2);
        k.wait(1320 - 120);
        Due.is("hour 22 is heard", k.sounding(0, 1) / 60, 1319);
        k.wait(60);
        Due.is("three quarters are heard of two, the hour of the third", k.sounding(0, 1) / 60, 1379);
        Due.is("the third", k.sounding(0, 0), 2);
        Due.is("the quarter of hour 22", k.sounding(1, 1) / 60, 1364);
        k.wait(300);
        Due.is("hour 5 is heard", k.sounding(0, 1) / 60, 1679);
        Due.is("of the third too", k.sounding(0, 0), 2);
        ClockKeeper day = Due.with("silent 1-3 held;");
        day.wait(180);
        Due.is("from the first on, the second not in", day.count(5), 1);
    }

    private static void latestAreKept() {
        ClockKeeper k = Due.with("run 31;strokes 2000;strike rack 1;");
        Due.pass(k, 205 * 60);
        Due.is("all so far", k.count(5), 205);
        Due.is("the 200th latest", k.sounding(199, 1), 6 * 3600 - 1);
        Due.is("the 201st", k.sounding(200, 1), -1);
        Due.is("heard of one that is kept", k.heard(0, 0, 359, 0), 1);
        Due.is("none of one that isn't", k.heard(0, 0, 299, 0), 0);
    }

    private static void trips() {
        ClockKeeper k = Due.with("strike wheel 3,0,4;strokes 5;");
        Due.is("a TRIP", k.trip(0, true), 1);
        Due.is("RINGS", k.told(0, 1), 2);
        Due.is("one of none", k.trip(0, true), 2);
        Due.is("RINGS too few", k.trip(0, true), -2);
        Due.is("PLACE stays", k.told(0, 2), 2);
        Due.is("RINGS stay", k.told(0, 1), 2);
        k.wind(0, 1);
        Due.is("round", k.trip(0, true), 0);
        Due.is("a LIFT round", k.trip(0, false), 2);
        Due.is("it takes none", k.told(0, 1), 1);
        Due.refit(k, 0, "strike wheel 1,1;");
        Due.is("RINGS just enough", k.trip(0, true), 1);
        Due.is("none left", k.told(0, 1), 0);
        Due.is("too few", k.trip(0, true), -2);
        Due.is("nothing is heard", k.count(5), 0);
        ClockKeeper rack = Due.with("");
        Due.is("TRIP of a rack", rack.trip(0, true), -1);
        Due.is("LIFT of a rack", rack.trip(0, false), -1);
        Due.refused("no such clock", Due.ELEMENT, () -> rack.trip(1, true));
    }

    private static void inStep() {
        ClockKeeper k = Due.with(HOURS);
        Due.is("at first", k.told(0, 7), 1);
        k.hands(0, 3599, false);
        Due.is("just ahead of 1", k.told(0, 7), 1);
        k.hands(0, 1, false);
        Due.is("at 1 the next is 2", k.told(0, 7), 0);
        k.trip(0, true);
        Due.is("tripped", k.told(0, 7), 1);
        k.hands(0, 43200, false);
        Due.is("12 hours further", k.told(0, 7), 1);
        k.wait(600);
        Due.is("it keeps step", k.told(0, 7), 1);
        Due.is("a wheel of 24", Due.with("strike wheel 1,2,3,4,5,6,7,8,9,10,11,12,1,2,3,4,5,6,7,8,9,10,11,12;").told(0, 7), 1);
        Due.is("one that goes wrong late", Due.with("strike wheel 1,2,3,4,5,6,7,8,9,10,11,12,1,2,3,4,5,6,7,8,9,10,11,11;").told(0, 7), 0);
        Due.is("one of 13", Due.with("strike wheel 1,2,3,4,5,6,7,8,9,10,11,12,1;").told(0, 7), 0);
        Due.is("a rack", Due.with("").told(0, 7), -1);
    }

    private static void mended(ClockKeeper k, String name, int cost, int acts, int lifts) {
        Due.is(name + ": cost", k.mend(0, 0), cost);
        Due.is(name + ": acts", k.mend(0, 1), acts);
        Due.is(name + ": LIFTS", k.mend(0, 2), lifts);
    }

    private static void mending() {
        ClockKeeper k = Due.with("strokes 30;" + HOURS);
        mended(k, "in step", 0, 0, 0);
        k.hands(0, 3 * 3600, false);
        mended(k, "three TRIPS", 9, 3, 0);
        k.hands(0, 3 * 3600, false);
        mended(k, "six TRIPS of 27, no dearer than LIFTS", 27, 6, 0);
        k.hands(0, 3600, false);
        mended(k, "seven TRIPS take 28 of 30", 35, 7, 0);
        k.hands(0, 3600, false);
        mended(k, "eight would take 36", 40, 4, 1);
        k.wind(0, 1);
        ClockKeeper rich = Due.with("strokes 2000;" + HOURS);
        rich.hands(0, 8 * 3600, false);
        mended(rich, "LIFTS cost less", 40, 4, 1);
        ClockKeeper alike = Due.with(HOURS);
        alike.trip(0, false);
        alike.trip(0, false);
        alike.trip(0, false);
        alike.hands(0, 4 * 3600, false);
        mended(alike, "seven TRIPS cost what five LIFTS do", 50, 7, 0);
        ClockKeeper dearer = Due.with(HOURS);
        dearer.hands(0, 7 * 3600, false);
        mended(dearer, "seven TRIPS of 28", 35, 7, 0);
        ClockKeeper just = Due.with("strokes 28;" + HOURS);
        just.hands(0, 7 * 3600, false);
        mended(just, "RINGS just enough", 35, 7, 0);
        ClockKeeper few = Due.with("strokes 27;" + HOURS);
        few.hands(0, 7 * 3600, false);
        mended(few, "one too few", 50, 5, 1);
        ClockKeeper lateWrong = Due.with("strike wheel 2,2,3,4,5,6,7,8,9,10,11,12;");
        lateWrong.hands(0, 3600, false);
        mended(lateWrong, "wrong at one place", -1, -1, -1);
        ClockKeeper never = Due.with("strike wheel 9,1,2,3,4,5,6,7,8,9,10,11,12;");
        mended(never, "never", -1, -1, -1);
        ClockKeeper day = Due.with("strike wheel 1,2,3,4,5,6,7,8,9,10,11,12,1,2,3,4,5,6,7,8,9,10,11,12;");
        day.trip(0, false);
        mended(day, "a wheel of 24, half round is as good", 13, 1, 0);
        ClockKeeper rack = Due.with("");
        mended(rack, "a rack", -1, -1, -1);
        Due.refused("what -1", Due.ARGUMENT, () -> rack.mend(0, -1));
        Due.refused("what 3", Due.ARGUMENT, () -> rack.mend(0, 3));
        Due.refused("no such clock", Due.ELEMENT, () -> rack.mend(1, 3));
    }

    private static void hearing() {
        ClockKeeper k = new ClockKeeper();
        Due.clock(k, 50, 50, "reach 20;strike rack 5;quarters 0 0 0 8;");
        k.wait(60);
        Due.is("all strokes", k.heard(50, 50, 59, 0), 13);
        Due.is("TAKEN round 12", k.heard(50, 50, 59, 1), 1);
        Due.is("the clock", k.heard(50, 50, 59, 2), 1);
        Due.is("at its reach", k.heard(40, 60, 59, 0), 13);
        Due.is("beyond its reach", k.heard(39, 60, 59, 0), 0);
        Due.is("TAKEN for none", k.heard(39, 60, 59, 1), 0);
        Due.is("no clocks", k.heard(39, 60, 59, 2), 0);
        Due.is("two minutes ahead", k.heard(50, 50, 57, 0), 0);
        Due.is("a minute ahead: strokes up to 120 seconds", k.heard(50, 50, 58, 0), 1);
        Due.is("a minute behind", k.heard(50, 50, 60, 0), 12);
        Due.is("two minutes behind", k.heard(50, 50, 61, 0), 0);
        Due.refit(k, 0, "reach 3;");
        Due.is("its reach as it is now", k.heard(53, 51, 59, 0), 0);
        Due.refused("x 100", Due.ARGUMENT, () -> k.heard(100, 0, 0, 0));
        Due.refused("y -1", Due.ARGUMENT, () -> k.heard(0, -1, 0, 0));
        Due.refused("MINUTE -1", Due.ARGUMENT, () -> k.heard(0, 0, -1, 0));
        Due.refused("MINUTE 100001", Due.ARGUMENT, () -> k.heard(0, 0, 100001, 0));
        Due.refused("what -1", Due.ARGUMENT, () -> k.heard(0, 0, 0, -1));
        Due.refused("what 3", Due.ARGUMENT, () -> k.heard(0, 0, 0, 3));
        Due.is("MINUTE 100000", k.heard(0, 0, 100000, 0), 0);
    }

    /** One strikes at 3,599, the other is told to strike so many seconds later. */
    private static int together(int secondsLater, int what) {
        ClockKeeper k = new ClockKeeper();
        Due.clock(k, 0, 0, "strike rack 2;");
        Due.clock(k, 0, 0, "strike rack 3;");
        k.hands(1, 1 - secondsLater, false);
        k.wait(62);
        return k.heard(0, 0, 59, what);
    }

    private static void hearingTogether() {
        // the first strikes at 3,599 and 3,601
        Due.is("mixed", together(3, 0), 5);
        Due.is("mixed clocks", together(3, 2), 3);
        Due.is("3 seconds behind the last", together(5, 0), 5);
        Due.is("TAKEN for", together(5, 1), 5);
        Due.is("4 seconds behind the last", together(6, 0), 2);
        Due.is("only the first", together(6, 2), 1);
    }

    private static void hearingEdges() {
        ClockKeeper k = new ClockKeeper();
        Due.clock(k, 0, 0, "strike rack 2;reach 200;");
        k.wait(60);
        Due.is("FAR 9 is not later", k.heard(4, 5, 60, 0), 1);
        Due.is("FAR 10 is a second later", k.heard(5, 5, 60, 0), 2);
        Due.is("FAR 198 is 19 seconds later", k.heard(99, 99, 59, 0), 2);
        Due.is("the first from the MINUTE on", k.heard(0, 0, 59, 0), 2);
        Due.is("the second alone is below 120", k.heard(0, 0, 58, 0), 1);
    }

    private static void witnesses() {
        ClockKeeper k = new ClockKeeper();
        Due.clock(k, 0, 0, "strike rack 3;reach 10;run 31;");
        Due.clock(k, 90, 90, "strike rack 5;reach 10;run 31;");
        k.wait(300);
        Due.is("the latest", k.witness(0, 0, 3, 0), 299);
        Due.is("each MINUTE once", k.witness(0, 0, 3, 1), 239);
        Due.is("the first", k.witness(0, 0, 3, 4), 59);
        Due.is("none ahead", k.witness(0, 0, 3, 5), -1);
        Due.is("none behind", k.witness(0, 0, 3, -1), -1);
        Due.is("another hour", k.witness(0, 0, 5, 0), -1);
        Due.is("another place", k.witness(90, 90, 5, 2), 179);
        Due.is("the least hour", k.witness(0, 0, 1, 0), -1);
        Due.is("the last hour", k.witness(0, 0, 12, 0), -1);
        Due.is("a place without any", k.witness(50, 50, 5, 0), -1);
        Due.refused("x 100", Due.ARGUMENT, () -> k.witness(100, 0, 1, 0));
        Due.refused("y -1", Due.ARGUMENT, () -> k.witness(0, -1, 1, 0));
        Due.refused("hour 0", Due.ARGUMENT, () -> k.witness(0, 0, 0, 0));
        Due.refused("hour 13", Due.ARGUMENT, () -> k.witness(0, 0, 13, 0));
        ClockKeeper slow = Due.with("strike rack 12;quarters 16 16 16 16;base -1;");
        slow.wait(121);
        Due.is("28 strokes", slow.witness(0, 0, 4, 0), 120);
        Due.is("16 strokes", slow.witness(0, 0, 4, 1), 105);
    }
}
