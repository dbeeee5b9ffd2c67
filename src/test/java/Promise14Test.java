/** Promise 14, hands: moved forward and back, and what SOUNDS under them. */
public final class Promise14Test {
    private Promise14Test() {
    }

    public static void main(String[] args) {
        hoursMovedPast();
        mostHours();
        noneBackward();
        roundMidnight();
        theDateStays();
        withoutLet();
        quartersComeTo();
        inOrder();
        nothingLetBackward();
        unheard();
        silentHours();
        midnightsStrike();
        oneThatStands();
        tooFar();
        Due.end();
    }

    // "how many hours they were moved past forward": as with quarters, one they come to counts, one they leave from doesn't
    private static void hoursMovedPast() {
        ClockKeeper k = Due.with("");
        Due.is("nowhere", k.hands(0, 0, false), 0);
        Due.is("short of hour 1", k.hands(0, 3599, false), 0);
        Due.is("to hour 1", k.hands(0, 1, false), 1);
        Due.is("from hour 1", k.hands(0, 1, false), 0);
        Due.is("past hour 2", k.hands(0, 3600, false), 1);
        Due.is("short of hour 3", k.hands(0, 3598, false), 0);
        Due.is("past hours 3 and 4", k.hands(0, 3602, false), 2);
        Due.is("DIAL", k.dial(0), 14401000);
        ClockKeeper slow = Due.with("base -1;");
        slow.wait(60);
        Due.is("a little short of hour 1", slow.dial(0), 3599996);
        Due.is("past it by a second", slow.hands(0, 1, false), 1);
        Due.is("past the next by less", slow.hands(0, 3600, false), 1);
    }

    private static void mostHours() {
        ClockKeeper k = Due.with("");
        Due.is("from an hour to an hour", k.hands(0, 43200, false), 12);
        k.hands(0, 1800, false);
        Due.is("from between to between", k.hands(0, 43200, false), 12);
        k.hands(0, 1799, false);
        Due.is("from just ahead of one", k.hands(0, 43200, false), 12);
    }

    // "forward"
    private static void noneBackward() {
        ClockKeeper k = Due.with("");
        k.hands(0, 7200, false);
        Due.is("from hour 2", k.hands(0, -1, false), 0);
        Due.is("past hour 1", k.hands(0, -3600, false), 0);
        Due.is("to midnight", k.hands(0, -3599, false), 0);
        Due.is("round midnight", k.hands(0, -43200, false), 0);
        Due.is("DIAL", k.dial(0), 43200000);
    }

    // "round midnight"
    private static void roundMidnight() {
        ClockKeeper k = Due.with("");
        Due.is("back", k.hands(0, -1, false), 0);
        Due.is("DIAL", k.dial(0), 86399000);
        Due.is("to midnight", k.hands(0, 1, false), 1);
        Due.is("DIAL", k.dial(0), 0);
        k.hands(0, -1, false);
        Due.is("past midnight", k.hands(0, 2, false), 1);
        Due.is("DIAL", k.dial(0), 1000);
        k.hands(0, -2, false);
        Due.is("far past midnight", k.hands(0, 43200, false), 12);
        Due.is("DIAL", k.dial(0), 43199000);
        Due.is("far back past midnight", k.hands(0, -43200, false), 0);
        Due.is("DIAL", k.dial(0), 86399000);
    }

    // "the DATE stays"
    private static void theDateStays() {
        ClockKeeper k = new ClockKeeper();
        Due.pass(k, 31 * 1440);
        k.clock(0, 0, 0);
        k.hands(0, -1, true);
        Due.is("DATE back past midnight", k.told(0, 3), 1);
        Due.is("month", k.told(0, 4), 2);
        k.hands(0, 1, true);
        Due.is("DATE to midnight", k.told(0, 3), 1);
        k.hands(0, 43200, true);
        k.hands(0, 43200, true);
        Due.is("DATE a whole day round", k.told(0, 3), 1);
        Due.is("month", k.told(0, 4), 2);
    }

    private static void withoutLet() {
        ClockKeeper k = Due.with("quarters 1 1 1 1;strike wheel 3,4;");
        Due.is("hours", k.hands(0, 43200, false), 12);
        Due.is("RINGS stay", k.told(0, 1), 400);
        Due.is("PLACE stays", k.told(0, 2), 0);
        k.wait(1);
        Due.is("nothing is made up for", k.told(0, 1), 400);
    }

    // "With let it SOUNDS, ..., at each quarter that they come to or pass forward"
    private static void quartersComeTo() {
        ClockKeeper k = Due.with("quarters 1 2 4 8;strike rack 16;");
        k.hands(0, 899, true);
        Due.is("short of the 1st", k.told(0, 1), 400);
        k.hands(0, 1, true);
        Due.is("to the 1st", k.told(0, 1), 399);
        k.hands(0, 1, true);
        Due.is("from the 1st", k.told(0, 1), 399);
        k.hands(0, 900, true);
        Due.is("past the 2nd", k.told(0, 1), 397);
        k.hands(0, 899, true);
        Due.is("to the 3rd", k.told(0, 1), 393);
        k.hands(0, 0, true);
        Due.is("nowhere from the 3rd", k.told(0, 1), 393);
        k.hands(0, 899, true);
        Due.is("short of the hour", k.told(0, 1), 393);
        k.hands(0, 1, true);
        Due.is("to the hour", k.told(0, 1), 369);
        ClockKeeper all = Due.with("quarters 1 2 4 8;strike rack 1;");
        all.hands(0, 43200, true);
        Due.is("48 quarters", all.told(0, 1), 400 - 12 * 16);
    }

    // "in order": with too few RINGS the earlier quarters have them
    private static void inOrder() {
        ClockKeeper k = Due.with("quarters 1 2 3 4;strike wheel 5,6;strokes 10;");
        k.hands(0, 3600, true);
        Due.is("all RINGS are gone with the CHIMES", k.told(0, 1), 0);
        Due.is("so the wheel stays", k.told(0, 2), 0);
        ClockKeeper more = Due.with("quarters 1 2 3 4;strike wheel 5,6;strokes 11;");
        more.hands(0, 3600, true);
        Due.is("one is left for the STRIKE", more.told(0, 2), 1);
        ClockKeeper late = Due.with("strike wheel 2,3,4;strokes 6;");
        late.hands(0, 3 * 3600, true);
        Due.is("three hours in order", late.told(0, 2), 0);
        Due.is("their RINGS", late.told(0, 1), 0);
        ClockKeeper hours = Due.with("strike rack hour;strokes 100;");
        hours.hands(0, 5 * 3600, true);
        Due.is("hours 1 to 5", hours.told(0, 1), 85);
    }

    private static void nothingLetBackward() {
        ClockKeeper k = Due.with("quarters 1 1 1 1;strike wheel 3,4;");
        k.hands(0, 7200, false);
        k.hands(0, -3600, true);
        k.hands(0, -3600, true);
        k.hands(0, -1, true);
        Due.is("RINGS stay", k.told(0, 1), 400);
        Due.is("PLACE stays", k.told(0, 2), 0);
    }

    // "unheard"
    private static void unheard() {
        ClockKeeper k = Due.with("quarters 1 1 1 1;");
        k.wait(15);
        Due.is("one heard", k.count(5), 1);
        k.hands(0, 43200, true);
        Due.is("SOUNDINGS", k.count(5), 1);
        Due.is("the latest", k.sounding(0, 1), 899);
        Due.is("the one ahead", k.sounding(1, 1), -1);
        Due.is("heard", k.heard(0, 0, 14, 0), 1);
        k.wait(1);
        Due.is("nor afterwards", k.count(5), 1);
    }

    // SILENT is the hour of the DIAL then: stopped takes nothing, held takes RINGS
    private static void silentHours() {
        ClockKeeper k = new ClockKeeper();
        Due.clock(k, 0, 0, "silent 1-2 stopped;quarters 1 1 1 1;strike wheel 2,2,2;");
        Due.clock(k, 0, 0, "silent 1-2 held;quarters 1 1 1 1;strike wheel 2,2,2;");
        for (int clock = 0; clock < 2; clock++) {
            k.hands(clock, 3600 + 2700, true);
            Due.is("PLACE within of " + clock, k.told(clock, 2), clock);
            Due.is("RINGS within of " + clock, k.told(clock, 1), clock == 0 ? 397 : 400 - 3 - 3 - 3);
            k.hands(clock, 900, true);
            Due.is("PLACE at its end of " + clock, k.told(clock, 2), clock + 1);
        }
    }

    // the STRIKE of hour 0 by the DATE that stays
    private static void midnightsStrike() {
        ClockKeeper k = Due.with("strike rack date*7+hour;");
        k.hands(0, -1, false);
        Due.is("to midnight", k.hands(0, 1, true), 1);
        Due.is("RINGS", k.told(0, 1), 393);
        k.hands(0, -1, false);
        Due.is("past midnight to hour 1", k.hands(0, 3601, true), 2);
        Due.is("RINGS", k.told(0, 1), 393 - 7 - 8);
    }

    private static void oneThatStands() {
        ClockKeeper k = Due.with("run 1;strokes 2000;strike rack 1;");
        k.wait(1440);
        Due.is("it STANDS", k.told(0, 5), 1);
        Due.is("its hands are moved", k.hands(0, 3600, true), 1);
        Due.is("DIAL", k.dial(0), 3600000);
        Due.is("it SOUNDS", k.told(0, 1), 2000 - 24 - 1);
        Due.is("it STANDS still", k.told(0, 5), 1);
    }

    // "(-43,200 to 43,200; ...)"; "IllegalArgumentException: the seconds."; no such CLOCK ahead of it
    private static void tooFar() {
        int[] wrong = {-43201, 43201, Integer.MIN_VALUE, Integer.MAX_VALUE};
        for (int seconds : wrong) {
            Town.refused("hands(0, " + seconds + ", true)", Due.ARGUMENT, k -> k.hands(0, seconds, true));
        }
        Town.refused("hands(3, 43201, true)", Due.ELEMENT, k -> k.hands(Town.NOBODY, 43201, true));
        Town.needsClock("hands", (k, clock) -> k.hands(clock, 0, true));
        Town.answers("hands(0, 0, true)", 0, k -> k.hands(0, 0, true));
    }
}
