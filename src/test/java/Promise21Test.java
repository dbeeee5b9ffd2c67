/** Promise 21, heard: "HEARD at a place from a MINUTE on: 0 COUNT, 1 TAKEN, 2 CLOCKS of those counted, as bits." */
public final class Promise21Test {
    private Promise21Test() {
    }

    public static void main(String[] args) {
        firstSecond();
        lastSecond();
        strokesTwoSecondsApart();
        laterWhereItIsFar();
        reach();
        threeSecondsBehind();
        tillNoneDoes();
        atOneTime();
        ofThoseCounted();
        taken();
        keptAlone();
        ofNone();
        places();
        minutes();
        anotherWhat();
        Due.end();
    }

    /** A CLOCK at a place that strikes so often, so many seconds (0 to 59) behind MINUTE 60. */
    private static void striking(ClockKeeper k, int x, int y, int strokes, int second, String more) {
        String text = (second == 0 ? "base -1;" : "") + "strike rack " + strokes + ";" + more;
        k.hands(Due.clock(k, x, y, text), -second, false);
    }

    private static ClockKeeper struck(int strokes, int second) {
        ClockKeeper k = new ClockKeeper();
        striking(k, 0, 0, strokes, second, "");
        k.wait(61);
        Due.is("SECOND", k.sounding(0, 1), 3600 + second);
        return k;
    }

    // "those from 60 times MINUTE on"
    private static void firstSecond() {
        ClockKeeper k = struck(1, 0);
        Due.is("at 60 times MINUTE", k.heard(0, 0, 60, 0), 1);
        Due.is("a MINUTE later", k.heard(0, 0, 61, 0), 0);
        ClockKeeper early = Due.with("strike rack 1;");
        early.wait(60);
        Due.is("its SECOND", early.sounding(0, 1), 3599);
        Due.is("a second ahead of 60 times MINUTE", early.heard(0, 0, 60, 0), 0);
        Due.is("from the MINUTE ahead", early.heard(0, 0, 59, 0), 1);
        ClockKeeper two = Due.with("strike rack 3;");
        two.wait(60);
        Due.is("the first of three is too early", two.heard(0, 0, 60, 0), 2);
    }

    // "below 120 SECONDS later"
    private static void lastSecond() {
        Due.is("120 later", struck(1, 0).heard(0, 0, 58, 0), 0);
        ClockKeeper k = Due.with("strike rack 1;");
        k.wait(60);
        Due.is("119 later", k.heard(0, 0, 58, 0), 1);
        Due.is("179 later", k.heard(0, 0, 57, 0), 0);
        ClockKeeper three = struck(3, 56);
        Due.is("116 and 118 later, not 120", three.heard(0, 0, 59, 0), 2);
        ClockKeeper odd = struck(3, 57);
        Due.is("117 and 119 later, not 121", odd.heard(0, 0, 59, 0), 2);
    }

    // "the others 2 SECONDS behind one another", CHIME and STRIKE alike
    private static void strokesTwoSecondsApart() {
        ClockKeeper k = new ClockKeeper();
        striking(k, 0, 0, 24, 0, "quarters 0 0 0 16;");
        k.wait(61);
        Due.is("40 strokes, 78 seconds", k.heard(0, 0, 60, 0), 40);
        Due.is("those behind a MINUTE", k.heard(0, 0, 61, 0), 10);
        Due.is("none behind two", k.heard(0, 0, 62, 0), 0);
        ClockKeeper late = new ClockKeeper();
        striking(late, 0, 0, 24, 50, "quarters 0 0 0 16;");
        late.wait(61);
        Due.is("35 strokes, up to 118 seconds", late.heard(0, 0, 60, 0), 35);
        Due.is("35 strokes behind a MINUTE", late.heard(0, 0, 61, 0), 35);
    }

    // "the first at the SECOND and FAR by 10, cut, later"; "FAR of two places: along x and along y together"
    private static void laterWhereItIsFar() {
        ClockKeeper k = new ClockKeeper();
        striking(k, 50, 50, 1, 59, "reach 200;");
        k.wait(61);
        int[] x = {50, 59, 54, 60, 55, 41, 40, 45, 60};
        int[] y = {50, 50, 55, 50, 55, 50, 50, 45, 59};
        int[] later = {0, 0, 0, 1, 1, 0, 1, 1, 1};
        for (int i = 0; i < x.length; i++) {
            Due.is("at " + x[i] + ", " + y[i], k.heard(x[i], y[i], 61, 0), later[i]);
            Due.is("at " + x[i] + ", " + y[i] + " from MINUTE 60 on", k.heard(x[i], y[i], 60, 0), 1);
            Due.is("at " + x[i] + ", " + y[i] + " from MINUTE 59 on", k.heard(x[i], y[i], 59, 0), 1 - later[i]);
        }
        ClockKeeper corner = new ClockKeeper();
        striking(corner, 0, 0, 1, 41, "reach 200;");
        corner.wait(61);
        Due.is("FAR 198 is 19 later", corner.heard(99, 99, 61, 0), 1);
        Due.is("FAR 189 is 18 later", corner.heard(99, 90, 61, 0), 0);
    }

    // "of CLOCKS not farther than their reach"
    private static void reach() {
        ClockKeeper k = new ClockKeeper();
        striking(k, 10, 10, 1, 0, "reach 5;");
        striking(k, 10, 10, 1, 0, "reach 0;");
        k.wait(61);
        Due.is("at the place", k.heard(10, 10, 60, 2), 3);
        Due.is("beside it", k.heard(11, 10, 60, 2), 1);
        Due.is("FAR 5", k.heard(7, 12, 60, 2), 1);
        Due.is("FAR 5 along y", k.heard(10, 5, 60, 2), 1);
        Due.is("FAR 6", k.heard(7, 13, 60, 2), 0);
        Due.is("FAR 6 along x", k.heard(16, 10, 60, 2), 0);
        ClockKeeper most = new ClockKeeper();
        striking(most, 0, 0, 1, 0, "reach 197;");
        striking(most, 0, 0, 1, 0, "reach 198;");
        most.wait(61);
        Due.is("FAR 198", most.heard(99, 99, 60, 2), 2);
    }

    private static ClockKeeper together(int first, int strokes, int second, int otherStrokes) {
        ClockKeeper k = new ClockKeeper();
        striking(k, 0, 0, strokes, first, "");
        striking(k, 0, 0, otherStrokes, second, "");
        k.wait(61);
        return k;
    }

    // "COUNT: the first and all that come at most 3 SECONDS behind the one ahead"
    private static void threeSecondsBehind() {
        Due.is("2 behind", together(10, 1, 12, 1).heard(0, 0, 60, 0), 2);
        Due.is("3 behind", together(10, 1, 13, 1).heard(0, 0, 60, 0), 2);
        Due.is("4 behind", together(10, 1, 14, 1).heard(0, 0, 60, 0), 1);
        Due.is("3 behind the last of three", together(10, 3, 17, 2).heard(0, 0, 60, 0), 5);
        Due.is("4 behind the last of three", together(10, 3, 18, 2).heard(0, 0, 60, 0), 3);
        Due.is("whichever CLOCK is first", together(13, 2, 10, 1).heard(0, 0, 60, 0), 3);
        Due.is("one of them wholly among the other's", together(10, 5, 13, 1).heard(0, 0, 60, 0), 6);
        Due.is("the first at the very end", together(59, 1, 10, 1).heard(0, 0, 60, 2), 2);
    }

    // ", till none does": what comes again behind a gap isn't counted
    private static void tillNoneDoes() {
        ClockKeeper k = new ClockKeeper();
        striking(k, 0, 0, 2, 10, "");
        striking(k, 0, 0, 1, 16, "");
        striking(k, 0, 0, 1, 12, "");
        striking(k, 0, 0, 9, 18, "");
        k.wait(61);
        Due.is("10, 12 and 12; not 16, 18 and behind", k.heard(0, 0, 60, 0), 3);
        Due.is("their CLOCKS", k.heard(0, 0, 60, 2), 1 + 4);
        ClockKeeper early = together(0, 1, 59, 2);
        Due.is("the first ahead of the window is none", early.heard(0, 0, 61, 0), 1);
    }

    private static void atOneTime() {
        ClockKeeper k = together(10, 3, 10, 2);
        Due.is("each stroke counts", k.heard(0, 0, 60, 0), 5);
        Due.is("of both", k.heard(0, 0, 60, 2), 3);
    }

    // "2 CLOCKS of those counted, as bits"
    private static void ofThoseCounted() {
        ClockKeeper k = new ClockKeeper();
        for (int clock = 0; clock < 8; clock++) {
            striking(k, clock, 0, 1, 1 + 3 * clock, "reach " + clock + ";");
        }
        k.wait(61);
        Due.is("all eight", k.heard(0, 0, 60, 2), 255);
        Due.is("all eight strokes", k.heard(0, 0, 60, 0), 8);
        Due.is("those that reach", k.heard(0, 1, 60, 2), 0);
        Due.is("the last one alone", k.heard(14, 0, 60, 2), 128);
        Due.is("the last two", k.heard(7, 4, 60, 2), 64 + 128);
    }

    // "TAKEN for an hour: COUNT and 11, by 12 what is left, and 1; 0 of none."
    private static void taken() {
        int[] strokes = {1, 2, 11, 12, 13, 23, 24};
        int[] hours = {1, 2, 11, 12, 1, 11, 12};
        for (int i = 0; i < strokes.length; i++) {
            ClockKeeper k = struck(strokes[i], 0);
            Due.is(strokes[i] + " strokes", k.heard(0, 0, 60, 0), strokes[i]);
            Due.is(strokes[i] + " strokes TAKEN", k.heard(0, 0, 60, 1), hours[i]);
            Due.is("none TAKEN", k.heard(0, 0, 62, 1), 0);
        }
    }

    // "of all SOUNDINGS that are kept"
    private static void keptAlone() {
        ClockKeeper k = Due.with("strokes 2000;quarters 1 1 1 1;strike rack 0;");
        k.wait(200 * 15);
        Due.is("the first of 200", k.heard(0, 0, 14, 0), 1);
        k.wait(15);
        Due.is("the first of 201", k.heard(0, 0, 14, 0), 0);
        Due.is("the second", k.heard(0, 0, 29, 0), 1);
        Due.is("the latest", k.heard(0, 0, 201 * 15 - 1, 0), 1);
    }

    private static void ofNone() {
        ClockKeeper k = Due.with("silent 0-2 held;");
        k.wait(60);
        for (int what = 0; what <= 2; what++) {
            Due.is("a held hour " + what, k.heard(0, 0, 59, what), 0);
        }
    }

    // "IllegalArgumentException: the place"
    private static void places() {
        int[] wrong = {-1, 100, Integer.MIN_VALUE, Integer.MAX_VALUE};
        for (int w : wrong) {
            Town.refused("heard(" + w + ", 0, 0, 0)", Due.ARGUMENT, k -> k.heard(w, 0, 0, 0));
            Town.refused("heard(0, " + w + ", 0, 0)", Due.ARGUMENT, k -> k.heard(0, w, 0, 0));
        }
        Town.answers("heard(0, 0, ..)", 0, k -> k.heard(0, 0, 0, 0));
        Town.answers("heard(99, 99, ..)", 0, k -> k.heard(99, 99, 0, 0));
    }

    // "the MINUTE (0 to 100,000)"
    private static void minutes() {
        int[] wrong = {-1, 100001, Integer.MIN_VALUE, Integer.MAX_VALUE};
        for (int w : wrong) {
            Town.refused("heard(0, 0, " + w + ", 0)", Due.ARGUMENT, k -> k.heard(0, 0, w, 0));
        }
        Town.answers("MINUTE 100000", 0, k -> k.heard(0, 0, 100000, 0));
        ClockKeeper first = Due.with("quarters 1 0 0 0;");
        first.hands(0, 890, false);
        first.wait(1);
        Due.is("MINUTE 0", first.heard(0, 0, 0, 0), 1);
        ClockKeeper last = Due.with("run 31;quarters 1 1 1 1;");
        Due.pass(last, 40000);
        last.wind(0, 0);
        last.wind(0, 1);
        Due.pass(last, 40000);
        last.wind(0, 0);
        Due.pass(last, 19995);
        last.wind(0, 1);
        last.hands(0, 301, false);
        last.wait(5);
        Due.is("the last SECOND of all", last.sounding(0, 1), 60 * 99999 + 59);
        Due.is("from MINUTE 99,999 on", last.heard(0, 0, 99999, 0), 1);
        Due.is("from MINUTE 100,000 on", last.heard(0, 0, 100000, 0), 0);
    }

    // "or another what."
    private static void anotherWhat() {
        int[] wrong = {-1, 3, Integer.MIN_VALUE, Integer.MAX_VALUE};
        for (int what : wrong) {
            Town.refused("heard(0, 0, 0, " + what + ")", Due.ARGUMENT, k -> k.heard(0, 0, 0, what));
        }
    }
}
