/** Promise 20, sounding: SOUNDINGS that are kept; with it what SOUNDS, and when, of section 2. */
public final class Promise20Test {
    private Promise20Test() {
    }

    public static void main(String[] args) {
        theLatestFirst();
        none();
        fullAndMore();
        quartersInOrder();
        comesToOrPasses();
        secondsCut();
        secondsAtMost();
        chimeThenStrike();
        ringsRunOut();
        wheelsThatGoOn();
        silentFromOneOnUpToAnother();
        silentRoundMidnight();
        heldOrStopped();
        withoutAStroke();
        rackNamesTheHour();
        rackNamesTheDate();
        lastMinuteOfAWeight();
        anotherWhat();
        Due.end();
    }

    private static void sounded(String name, ClockKeeper k, int at, int clock, int second, int chime, int strike) {
        Due.is(name + ": CLOCK", k.sounding(at, 0), clock);
        Due.is(name + ": SECOND", k.sounding(at, 1), second);
        Due.is(name + ": strokes of CHIME", k.sounding(at, 2), chime);
        Due.is(name + ": strokes of STRIKE", k.sounding(at, 3), strike);
    }

    // "the k-th SOUNDING that is kept, the latest being 0: 0 the CLOCK, 1 the SECOND, 2 strokes of CHIME, 3 of STRIKE"
    private static void theLatestFirst() {
        ClockKeeper k = new ClockKeeper();
        Due.clock(k, 0, 0, "quarters 0 0 7 2;");
        Due.clock(k, 0, 0, "strike rack 20;");
        k.wait(60);
        sounded("the latest", k, 0, 1, 3599, 0, 20);
        sounded("the one ahead", k, 1, 0, 3599, 2, 1);
        sounded("the first", k, 2, 0, 2699, 7, 0);
        sounded("none", k, 3, -1, -1, -1, -1);
    }

    // "NONE: there is none."
    private static void none() {
        ClockKeeper k = Due.with("");
        sounded("of none", k, 0, -1, -1, -1, -1);
        k.wait(60);
        sounded("of one", k, 0, 0, 3599, 0, 1);
        int[] others = {-1, 1, 199, 200, Integer.MIN_VALUE, Integer.MAX_VALUE};
        for (int other : others) {
            sounded("number " + other, k, other, -1, -1, -1, -1);
        }
        Town.answers("the 200th", 4918894, town -> town.sounding(199, 1));
        Town.answers("the 201st", -1, town -> town.sounding(200, 1));
    }

    // "the latest 200 of all, are kept"
    private static void fullAndMore() {
        ClockKeeper k = Due.with("strokes 2000;quarters 1 1 1 1;strike rack 0;");
        k.wait(199 * 15);
        Due.is("the first of 199", k.sounding(198, 1), 899);
        Due.is("no 200th", k.sounding(199, 1), -1);
        k.wait(15);
        Due.is("the first of 200", k.sounding(199, 1), 899);
        k.wait(15);
        Due.is("the second of 201", k.sounding(199, 1), 1799);
        Due.is("no 201st", k.sounding(200, 1), -1);
        Due.is("all so far", k.count(5), 201);
        Due.is("the latest", k.sounding(0, 1), 201 * 900 - 1);
        k.wait(200 * 15);
        Due.is("the 202nd of 401", k.sounding(199, 1), 202 * 900 - 1);
        Due.is("the latest of 401", k.sounding(0, 1), 401 * 900 - 1);
    }

    // "at the 1st, 2nd, 3rd quarter its CHIME (quarters, in order); at the hour first the CHIME of the 4th"
    private static void quartersInOrder() {
        ClockKeeper k = Due.with("quarters 1 2 3 4;strike rack 9;strokes 2000;");
        k.wait(60);
        for (int quarter = 1; quarter <= 4; quarter++) {
            sounded("quarter " + quarter, k, 4 - quarter, 0, 900 * quarter - 1, quarter, quarter == 4 ? 9 : 0);
        }
        k.wait(1380);
        sounded("the hour at midnight", k, 0, 0, 86399, 4, 9);
        sounded("the 3rd quarter ahead", k, 1, 0, 86399 - 900, 3, 0);
        k.wait(15);
        sounded("the 1st quarter behind", k, 0, 0, 86399 + 900, 1, 0);
    }

    // "comes to a quarter of an hour or passes it in a MINUTE (from a to b, a below it ...)"
    private static void comesToOrPasses() {
        ClockKeeper k = new ClockKeeper();
        Due.clock(k, 0, 0, "quarters 1 1 1 1;");
        k.wait(1);
        Due.is("from 0, where it came, is none", k.count(5), 0);
        k.wait(13);
        Due.is("not yet", k.count(5), 0);
        k.wait(1);
        Due.is("it comes to it", k.count(5), 1);
        k.wait(1);
        Due.is("from it is none", k.count(5), 1);
        ClockKeeper set = Due.with("quarters 1 1 1 1;strike rack 0;");
        set.hands(0, 900, false);
        set.wait(1);
        Due.is("set to a quarter", set.count(5), 0);
        set.hands(0, -61, false);
        set.wait(1);
        Due.is("from a second ahead", set.sounding(0, 1), 61);
        set.hands(0, -61, false);
        set.wait(1);
        Due.is("the same quarter again", set.count(5), 2);
    }

    // "60 times (the quarter less a), by (b less a), cut"
    private static void secondsCut() {
        ClockKeeper k = new ClockKeeper();
        Due.clock(k, 0, 0, "quarters 1 0 0 0;base 1;");
        Due.clock(k, 0, 0, "quarters 1 0 0 0;");
        Due.clock(k, 0, 0, "quarters 1 0 0 0;base -1;");
        for (int clock = 0; clock < 3; clock++) {
            k.hands(clock, -30, false);
        }
        k.wait(16);
        Due.is("a little less than 30", k.sounding(2, 1), 900 + 29);
        Due.is("30", k.sounding(1, 1), 900 + 30);
        Due.is("a little more than 30", k.sounding(0, 1), 900 + 30);
        ClockKeeper slow = Due.with("quarters 1 0 0 0;base -1;");
        slow.wait(16);
        Due.is("a little more than 0", slow.sounding(0, 1), 900);
        ClockKeeper fast = Due.with("warm 500;base 500;penny 50;quarters 1 0 0 0;");
        fast.warmth(50);
        fast.pennies(0, 20);
        fast.hands(0, 850, false);
        fast.wait(1);
        // 60 times 50 by 61.14
        Due.is("by the way of that MINUTE", fast.sounding(0, 1), 49);
    }

    // "(59 at most)"
    private static void secondsAtMost() {
        ClockKeeper k = new ClockKeeper();
        Due.clock(k, 0, 0, "quarters 1 0 0 0;");
        Due.clock(k, 0, 0, "quarters 1 0 0 0;base 500;");
        k.hands(1, 2, false);
        Due.clock(k, 0, 0, "quarters 1 0 0 0;");
        k.hands(2, 1, false);
        k.wait(15);
        Due.is("to it at the MINUTE's end", k.sounding(2, 1), 14 * 60 + 59);
        Due.is("57.6 of 60.03", k.sounding(1, 1), 14 * 60 + 57);
        Due.is("59 of 60", k.sounding(0, 1), 14 * 60 + 59);
    }

    private static void chimeThenStrike() {
        ClockKeeper k = Due.with("quarters 0 0 0 16;strike rack 24;");
        k.wait(60);
        sounded("the most strokes", k, 0, 0, 3599, 16, 24);
        Due.is("their RINGS", k.told(0, 1), 360);
        ClockKeeper few = Due.with("quarters 0 0 0 16;strike rack 24;strokes 17;");
        few.wait(60);
        sounded("first the CHIME", few, 0, 0, 3599, 16, 1);
    }

    // "Each stroke takes one of RINGS; without any left there is none"
    private static void ringsRunOut() {
        ClockKeeper k = Due.with("quarters 2 2 2 2;strike rack 3;strokes 12;");
        k.wait(60);
        sounded("all", k, 0, 0, 3599, 2, 3);
        Due.is("one is left", k.told(0, 1), 1);
        k.wait(15);
        sounded("a CHIME of one", k, 0, 0, 4499, 1, 0);
        k.wait(600);
        Due.is("then no SOUNDING", k.count(5), 5);
        k.wind(0, 1);
        k.wait(15);
        sounded("wound", k, 0, 0, 690 * 60 - 1, 2, 0);
    }

    // "(a wheel goes on only if there is one left when its STRIKE begins)"
    private static void wheelsThatGoOn() {
        ClockKeeper k = Due.with("quarters 0 0 0 3;strike wheel 5,6;strokes 3;");
        k.wait(60);
        sounded("the CHIME took all", k, 0, 0, 3599, 3, 0);
        Due.is("it stays", k.told(0, 2), 0);
        ClockKeeper one = Due.with("quarters 0 0 0 3;strike wheel 5,6;strokes 4;");
        one.wait(60);
        sounded("one is left", one, 0, 0, 3599, 3, 1);
        Due.is("it goes on", one.told(0, 2), 1);
        ClockKeeper zero = Due.with("strike wheel 0,1,0;strokes 1;");
        zero.wait(60);
        Due.is("an N of 0, one left", zero.told(0, 2), 1);
        zero.wait(60);
        Due.is("it takes the last", zero.told(0, 2), 2);
        zero.wait(60);
        Due.is("an N of 0, none left", zero.told(0, 2), 2);
    }

    // "from the first N on, up to the second, that one not in"; "an hour (of the DIAL then)"; "alike: never"
    private static void silentFromOneOnUpToAnother() {
        ClockKeeper k = new ClockKeeper();
        Due.clock(k, 0, 0, "silent 1-3 held;quarters 1 1 1 1;strike rack 1;");
        Due.clock(k, 0, 0, "silent 2-2 held;quarters 1 1 1 1;strike rack 1;");
        k.wait(59);
        Due.is("hour 0 is heard of both", k.count(5), 6);
        k.wait(1);
        Due.is("hour 1 isn't of the first", k.count(5), 7);
        k.wait(119);
        Due.is("nor hour 2", k.count(5), 7 + 7);
        k.wait(1);
        Due.is("hour 3 is heard of both", k.count(5), 7 + 7 + 2);
        Due.is("RINGS went", k.told(0, 1), k.told(1, 1));
        ClockKeeper set = Due.with("silent 5-6 held;");
        set.hands(0, 5 * 3600 - 60, false);
        set.wait(1);
        Due.is("by the DIAL, not by the true time", set.count(5), 0);
        set.hands(0, 3540, false);
        set.wait(1);
        Due.is("hour 6", set.count(5), 1);
    }

    // "(round midnight; ...)"
    private static void silentRoundMidnight() {
        ClockKeeper k = Due.with("silent 23-1 held;quarters 1 1 1 1;strike rack 1;");
        k.wait(59);
        Due.is("hour 0 isn't heard", k.count(5), 0);
        k.wait(1);
        Due.is("hour 1 is", k.count(5), 1);
        k.wait(1319);
        Due.is("hour 22 is", k.sounding(0, 1), 22 * 3600 + 2699);
        int before = k.count(5);
        k.wait(120);
        Due.is("hours 23 and 0 aren't", k.count(5), before);
        k.wait(1);
        Due.is("hour 1 is", k.count(5), before + 1);
    }

    // "held: all goes on, but nobody hears it; stopped: no CHIME, no STRIKE, PLACE and RINGS stay."
    private static void heldOrStopped() {
        ClockKeeper k = new ClockKeeper();
        Due.clock(k, 0, 0, "silent 23-2 held;quarters 1 1 1 1;strike wheel 3,4,5;");
        Due.clock(k, 0, 0, "silent 23-2 stopped;quarters 1 1 1 1;strike wheel 3,4,5;");
        k.wait(60);
        Due.is("neither is heard", k.count(5), 0);
        Due.is("held: RINGS go", k.told(0, 1), 400 - 4 - 3);
        Due.is("held: PLACE goes on", k.told(0, 2), 1);
        Due.is("stopped: RINGS stay", k.told(1, 1), 400);
        Due.is("stopped: PLACE stays", k.told(1, 2), 0);
        k.wait(60);
        sounded("the one that was stopped strikes 3", k, 0, 1, 7199, 1, 3);
        sounded("the one that was held 4", k, 1, 0, 7199, 1, 4);
        k.wait(1320);
        Due.is("stopped: midnight turns the DATE", k.told(1, 3), 2);
        Due.is("stopped: the DIAL goes on", k.dial(1), 0);
        Due.is("stopped: LEFT goes", k.told(1, 0), k.told(0, 0));
    }

    // "(those without a stroke are none)"
    private static void withoutAStroke() {
        ClockKeeper k = Due.with("quarters 0 1 0 0;strike wheel 0,2;");
        k.wait(60);
        Due.is("the 2nd quarter alone", k.count(5), 1);
        sounded("it", k, 0, 0, 1799, 1, 0);
        k.wait(60);
        sounded("a STRIKE without a CHIME", k, 0, 0, 7199, 0, 2);
        Due.is("SOUNDINGS", k.count(5), 3);
    }

    // "the STRIKE of that hour (0 to 23, as the DIAL shows it then; the hour ... what a rack's E names)"
    private static void rackNamesTheHour() {
        ClockKeeper k = Due.with("strike rack hour;");
        k.wait(1380);
        Due.is("hour 23", k.sounding(0, 3), 23);
        k.wait(60);
        Due.is("hour 0 has no stroke", k.sounding(0, 3), 23);
        k.wait(60);
        Due.is("hour 1", k.sounding(0, 3), 1);
        ClockKeeper set = Due.with("strike rack hour;");
        set.hands(0, 5 * 3600 + 3540, false);
        set.wait(1);
        Due.is("as the DIAL shows it", set.sounding(0, 3), 6);
    }

    // "At midnight first the DATE": then the STRIKE
    private static void rackNamesTheDate() {
        ClockKeeper k = new ClockKeeper();
        Due.pass(k, 30 * 1440);
        Due.clock(k, 0, 0, "strike rack if(hour=0,date+month*5,0);calendar months;");
        k.wait(1440);
        Due.is("the 1st of month 2", k.sounding(0, 3), 11);
        k.wait(1440);
        Due.is("the 2nd", k.sounding(0, 3), 12);
    }

    // it SOUNDS in the MINUTE in which LEFT becomes 0, and not behind it
    private static void lastMinuteOfAWeight() {
        ClockKeeper k = Due.with("run 1;strike rack 1;");
        k.wait(1440);
        sounded("the last MINUTE", k, 0, 0, 86399, 0, 1);
        k.wait(120);
        Due.is("no more", k.count(5), 24);
        ClockKeeper slow = Due.with("run 1;strike rack 1;base -1;");
        slow.wait(1500);
        Due.is("it STANDS ahead of midnight", slow.count(5), 23);
    }

    // "IllegalArgumentException: another what.", also where there is none
    private static void anotherWhat() {
        int[] wrong = {-1, 4, Integer.MIN_VALUE, Integer.MAX_VALUE};
        for (int what : wrong) {
            Town.refused("sounding(0, " + what + ")", Due.ARGUMENT, k -> k.sounding(0, what));
            Town.refused("sounding(200, " + what + ")", Due.ARGUMENT, k -> k.sounding(200, what));
        }
    }
}
