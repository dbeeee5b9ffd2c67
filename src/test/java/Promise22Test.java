/** Promise 22, witness: "The k-th latest (0 the latest) MINUTE that is a WITNESS; NONE." */
public final class Promise22Test {
    private Promise22Test() {
    }

    public static void main(String[] args) {
        latestFirst();
        noneBehindOrAhead();
        eachOnce();
        minutesCut();
        minutesOfAllSoundings();
        keptAlone();
        takenForThatHour();
        places();
        hours();
        Due.end();
    }

    // "(0 the latest)"
    private static void latestFirst() {
        ClockKeeper k = Due.with("strike rack 3;");
        k.wait(300);
        for (int i = 0; i < 5; i++) {
            Due.is("number " + i, k.witness(0, 0, 3, i), 299 - 60 * i);
        }
    }

    // "; NONE."
    private static void noneBehindOrAhead() {
        ClockKeeper k = Due.with("strike rack 3;");
        Due.is("without SOUNDINGS", k.witness(0, 0, 3, 0), -1);
        k.wait(120);
        Due.is("the last one", k.witness(0, 0, 3, 1), 59);
        int[] none = {-1, 2, 200, Integer.MIN_VALUE, Integer.MAX_VALUE};
        for (int i : none) {
            Due.is("number " + i, k.witness(0, 0, 3, i), -1);
        }
        Town.answers("a WITNESS", Town.MINUTE - 60, town -> town.witness(50, 60, 1, 0));
    }

    // "each once"
    private static void eachOnce() {
        ClockKeeper k = new ClockKeeper();
        for (int clock = 0; clock < 3; clock++) {
            Due.clock(k, 0, 0, "strike rack 1;");
        }
        k.wait(180);
        Due.is("the latest", k.witness(0, 0, 3, 0), 179);
        Due.is("the second", k.witness(0, 0, 3, 1), 119);
        Due.is("the third", k.witness(0, 0, 3, 2), 59);
        Due.is("no fourth", k.witness(0, 0, 3, 3), -1);
    }

    // "(their SECONDS by 60, cut)"
    private static void minutesCut() {
        ClockKeeper k = Due.with("strike rack 5;");
        k.wait(60);
        Due.is("SECOND 59 of it", k.witness(0, 0, 5, 0), 59);
        ClockKeeper slow = Due.with("strike rack 5;base -1;");
        slow.wait(61);
        Due.is("SECOND 0 of it", slow.witness(0, 0, 5, 0), 60);
        Due.is("and no other", slow.witness(0, 0, 5, 1), -1);
    }

    // "those MINUTES of SOUNDINGS that are kept", wherever these are heard; "from which on HEARD is TAKEN"
    private static void minutesOfAllSoundings() {
        ClockKeeper k = new ClockKeeper();
        Due.clock(k, 0, 0, "strike rack 4;reach 5;");
        Due.clock(k, 90, 90, "strike rack 7;reach 5;");
        k.hands(0, -30, false);
        k.wait(61);
        Due.is("the near one's own MINUTE", k.witness(0, 0, 4, 0), 60);
        Due.is("the far one's, from which on it is heard", k.witness(0, 0, 4, 1), 59);
        Due.is("the first one, as its hands were put back over midnight", k.witness(0, 0, 4, 2), 0);
        Due.is("none more", k.witness(0, 0, 4, 3), -1);
        Due.is("there the far one", k.witness(90, 90, 7, 0), 59);
        Due.is("once", k.witness(90, 90, 7, 1), -1);
        Due.is("between them none", k.witness(50, 50, 4, 0), -1);
    }

    private static void keptAlone() {
        ClockKeeper k = Due.with("strokes 2000;quarters 1 1 1 1;strike rack 0;");
        k.wait(200 * 15);
        Due.is("the first of 200", k.witness(0, 0, 1, 199), 14);
        Due.is("no 201st", k.witness(0, 0, 1, 200), -1);
        k.wait(15);
        Due.is("the second of 201", k.witness(0, 0, 1, 199), 29);
        Due.is("no 201st", k.witness(0, 0, 1, 200), -1);
    }

    // "is TAKEN for that hour"
    private static void takenForThatHour() {
        ClockKeeper k = Due.with("strike wheel 12,1,11,0,10;quarters 0 0 0 2;");
        k.wait(300);
        Due.is("14 strokes", k.witness(0, 0, 2, 0), 179 + 60);
        Due.is("14 strokes earlier", k.witness(0, 0, 2, 1), 59);
        Due.is("3 strokes", k.witness(0, 0, 3, 0), 119);
        Due.is("13 strokes", k.witness(0, 0, 1, 0), 179);
        Due.is("12 strokes", k.witness(0, 0, 12, 0), 299);
        Due.is("11 strokes", k.witness(0, 0, 11, 0), -1);
    }

    // "IllegalArgumentException: the place"
    private static void places() {
        int[] wrong = {-1, 100, Integer.MIN_VALUE, Integer.MAX_VALUE};
        for (int w : wrong) {
            Town.refused("witness(" + w + ", 0, 1, 0)", Due.ARGUMENT, k -> k.witness(w, 0, 1, 0));
            Town.refused("witness(0, " + w + ", 1, 0)", Due.ARGUMENT, k -> k.witness(0, w, 1, 0));
        }
        ClockKeeper k = new ClockKeeper();
        Due.clock(k, 99, 99, "strike rack 6;");
        Due.clock(k, 0, 0, "strike rack 8;");
        k.wait(60);
        Due.is("the farthest place", k.witness(99, 99, 6, 0), 59);
        Due.is("the first place", k.witness(0, 0, 8, 0), 59);
    }

    // "or the hour is not 1 to 12."
    private static void hours() {
        int[] wrong = {-1, 0, 13, Integer.MIN_VALUE, Integer.MAX_VALUE};
        for (int w : wrong) {
            Town.refused("witness(0, 0, " + w + ", 0)", Due.ARGUMENT, k -> k.witness(0, 0, w, 0));
        }
        ClockKeeper k = Due.with("strike wheel 1,12;");
        k.wait(120);
        Due.is("hour 1", k.witness(0, 0, 1, 0), 59);
        Due.is("hour 12", k.witness(0, 0, 12, 0), 119);
    }
}
