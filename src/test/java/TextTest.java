/** Promises 4, 5, 6 and 17: the TAPE, the TEXT of a clock and its FAULTS, refitting. */
public final class TextTest {
    private TextTest() {
    }

    public static void main(String[] args) {
        tape();
        newClocks();
        faultsOfWords();
        faultsOfNumbers();
        faultsOfRacks();
        faultsOfTooMany();
        blanks();
        lastOfAKind();
        nothingStaysOfAFaultyOne();
        refits();
        Due.end();
    }

    private static void tape() {
        ClockKeeper k = new ClockKeeper();
        for (int i = 1; i <= 20; i++) {
            Due.is("feed " + i, k.feed(0, 0, 0, 0, 0), 20 * i);
        }
        Due.is("a 21st feed", k.feed(0, 0, 0, 0, 0), -1);
        Due.is("bytes", k.count(6), 400);
        Due.is("clock of nulls", k.clock(0, 0, 400), -9);
        Due.is("bytes then", k.count(6), 0);
        // "reach 7;" with the highest byte of each number first
        k.feed(0x72656163, 0x6820373b, -1, -1, -1);
        Due.is("clock", k.clock(0, 0, 8), 0);
        Due.is("bytes behind the text are gone", k.count(6), 0);
        k.feed(0x72656163, 0x6820ff3b, -1, -1, -1);
        Due.is("a byte above 127", k.clock(0, 0, 8), -9);
        Due.is("its place", k.fault(), 6);
    }

    private static void newClocks() {
        ClockKeeper k = new ClockKeeper();
        Due.feed(k, "run 8;");
        Due.refused("x 100", Due.ARGUMENT, () -> k.clock(100, 0, 6));
        Due.refused("x -1", Due.ARGUMENT, () -> k.clock(-1, 0, 6));
        Due.refused("y 100", Due.ARGUMENT, () -> k.clock(0, 100, 6));
        Due.refused("y -1", Due.ARGUMENT, () -> k.clock(0, -1, 6));
        Due.refused("n 21", Due.ARGUMENT, () -> k.clock(0, 0, 21));
        Due.refused("n -1", Due.ARGUMENT, () -> k.clock(0, 0, -1));
        Due.is("the TAPE is kept", k.count(6), 20);
        Due.is("clock", k.clock(99, 99, 6), 0);
        for (int i = 1; i < 8; i++) {
            Due.is("clock " + i, k.clock(0, 0, 0), i);
        }
        Due.feed(k, "run 8;");
        Due.refused("x 100 of 8", Due.ARGUMENT, () -> k.clock(100, 0, 6));
        Due.is("a 9th", k.clock(0, 0, 6), -1);
        Due.is("the TAPE is empty", k.count(6), 0);
        Due.is("no fault", k.fault(), -1);
        Due.is("a faulty refit", Due.refit(k, 0, "run 8;bell;"), -9);
        Due.is("its place", k.fault(), 6);
        Due.refused("a refit that is refused", Due.ARGUMENT, () -> k.refit(0, 1));
        Due.is("the place stays", k.fault(), 6);
        Due.is("a 9th", k.clock(0, 0, 0), -1);
        Due.is("no fault then", k.fault(), -1);
        ClockKeeper late = new ClockKeeper();
        late.wait(3000);
        late.clock(0, 0, 0);
        Due.is("DATE when it comes", late.told(0, 3), 3);
        Due.is("DIAL when it comes", late.dial(0), 0);
        Due.is("LEFT when it comes", late.told(0, 0), 8 * 1440);
        Due.is("RINGS when it comes", late.told(0, 1), 400);
    }

    private static void faultsOfWords() {
        Due.faulty("runs 8;", 1, 0);
        Due.faulty("  Run 8;", 1, 2);
        Due.faulty("runz 8;", 1, 0);
        Due.faulty("run{8;", 1, 3);
        Due.faulty("run`8;", 1, 3);
        Due.faulty("run /8;", 1, 4);
        Due.faulty("run :8;", 1, 4);
        Due.faulty("8;", 1, 0);
        Due.faulty(";", 1, 0);
        Due.faulty("run 8;;", 1, 6);
        Due.faulty("run 8", 1, 5);
        Due.faulty("run 8  ", 1, 7);
        Due.faulty("run", 1, 3);
        Due.faulty("run -1;", 1, 4);
        Due.faulty("run 8 9;", 1, 6);
        Due.faulty("run 8x;", 1, 5);
        Due.faulty("base --5;", 1, 6);
        Due.faulty("base +5;", 1, 5);
        Due.faulty("wear -5;", 1, 5);
        Due.faulty("strike bell;", 1, 7);
        Due.faulty("strikerack 1;", 1, 0);
        Due.faulty("strike;", 1, 6);
        Due.faulty("strike wheel;", 1, 12);
        Due.faulty("strike wheel 1,;", 1, 15);
        Due.faulty("strike wheel 1 2;", 1, 15);
        Due.faulty("quarters 1 2 3;", 1, 14);
        Due.faulty("quarters 1,2,3,4;", 1, 10);
        Due.faulty("silent 22-6;", 1, 11);
        Due.faulty("silent 22 6 held;", 1, 10);
        Due.faulty("silent 22-6 helds;", 1, 12);
        Due.faulty("calendar moon;", 1, 9);
        Due.faulty("calendar;", 1, 8);
        Due.faulty("run\t8;", 1, 3);
    }

    private static void faultsOfNumbers() {
        String[] parts = {"run", "base", "base -", "warm", "warm -", "wear", "pull", "penny", "strokes", "reach", "strike wheel",
            "quarters", "quarters 0", "quarters 0 0", "quarters 0 0 0", "strike rack"};
        int[] least = {1, 0, 0, 0, 0, 0, 0, 0, 1, 0, 0, 0, 0, 0, 0, 0};
        int[] most = {31, 500, 500, 500, 500, 500, 500, 50, 2000, 200, 12, 16, 16, 16, 16, 99};
        for (int i = 0; i < parts.length; i++) {
            String end = parts[i].startsWith("quarters") ? " 0 0 0".substring(0, 6 - (parts[i].length() - 8)) + ";" : ";";
            Due.fine(parts[i] + " " + least[i] + end);
            Due.fine(parts[i] + " 000" + most[i] + end);
            Due.faulty(parts[i] + " " + (most[i] + 1) + end, 2, parts[i].length() + 1);
            Due.faulty(parts[i] + " 99999999999999999999" + end, 2, parts[i].length() + 1);
            if (least[i] > 0) {
                Due.faulty(parts[i] + " 0;", 2, parts[i].length() + 1);
            }
        }
        Due.fine("silent 0-23 held;");
        Due.faulty("silent 24-0 held;", 2, 7);
        Due.faulty("silent 0-24 held;", 2, 9);
        Due.faulty("run 32 x", 2, 4);
    }

    private static void faultsOfRacks() {
        Due.faulty("strike rack;", 1, 11);
        Due.faulty("strike rack 1+;", 1, 14);
        Due.faulty("strike rack -1;", 1, 12);
        Due.faulty("strike rack hours;", 1, 12);
        Due.faulty("strike rack hour 1;", 1, 17);
        Due.faulty("strike rack (1;", 1, 14);
        Due.faulty("strike rack 1);", 1, 13);
        Due.faulty("strike rack if(hour,1,2);", 1, 19);
        Due.faulty("strike rack if hour<1,2,3);", 1, 15);
        Due.faulty("strike rack if(1<2<3,1,2);", 1, 18);
        Due.faulty("strike rack if(1<2,1);", 1, 20);
        Due.faulty("strike rack if(1<2,1,2,3);", 1, 22);
        Due.fine("strike rack if(1<2,1,if(date>3,month,hour))*(2+3)/0%7-if(1=1,2,3);");
        Due.fine("strike rack ((((((((1))))))))+((1));");
        Due.fine("strike rack if(if(if(if(if(if(if(if(1<1,1,1)<1,1,1)<1,1,1)<1,1,1)<1,1,1)<1,1,1)<1,1,1)<1,1,1);");
    }

    private static void faultsOfTooMany() {
        Due.fine("run 1;".repeat(16));
        Due.faulty("run 1;".repeat(17), 3, 96);
        Due.faulty("run 1;".repeat(16) + " pull", 3, 97);
        Due.faulty("run 1;".repeat(16) + "bell 1;", 1, 96);
        Due.faulty("run 1;".repeat(16) + ";", 1, 96);
        Due.fine("run 1;".repeat(16) + "  ");
        String wheel = "strike wheel 1" + ",1".repeat(23);
        Due.fine(wheel + ";");
        Due.faulty(wheel + ",1;", 3, 61);
        Due.faulty(wheel + ", 1;", 3, 62);
        Due.faulty(wheel + ",13;", 2, 61);
        Due.faulty(wheel + ",;", 1, 61);
        Due.faulty(wheel + ",", 1, 61);
        Due.faulty("strike rack (((((((((1", 3, 20);
        Due.faulty("strike rack ((((((((if(", 3, 22);
        Due.faulty("strike rack (((((((( if 1", 1, 24);
        Due.faulty("strike rack ((((((((1(", 1, 21);
    }

    private static void blanks() {
        Due.fine("");
        Due.fine("   ");
        Due.fine("  run  8  ;  base  -  5 ; silent 1 - 2 held ; quarters 1 2  3 4 ; strike wheel 1 , 2 ;  ");
        Due.fine("run8;base-5;quarters1 2 3 4;silent1-2held;strike rack if ( hour < 1 , 2 , 3 ) ;");
        Due.fine("run 8;strike rack(hour)%(12);");
    }

    private static void lastOfAKind() {
        ClockKeeper k = Due.with("run 3;run 2;strike wheel 1,2;strike rack 7;strokes 9;strokes 8;base 4;base -3;");
        Due.is("the last run", k.told(0, 0), 2880);
        Due.is("the last strike", k.told(0, 8), 7);
        Due.is("a rack has no PLACE", k.told(0, 2), -1);
        Due.is("the last strokes", k.told(0, 1), 8);
        Due.is("the last base", k.rate(0), -3);
        k = Due.with("strike rack 7;strike wheel 5,2;");
        Due.is("a wheel behind a rack", k.told(0, 8), 5);
        k = Due.with("run 31;calendar months;calendar plain;");
        Due.pass(k, 31 * 1440);
        k.wind(0, 0);
        Due.pass(k, 28 * 1440);
        Due.is("the last calendar", k.told(0, 3), 29);
        k = Due.with("strike wheel 5,2;strike wheel 3;");
        Due.is("PLACE goes round the last wheel", k.trip(0, true), 0);
    }

    private static void nothingStaysOfAFaultyOne() {
        String all = "run 2;base 3;warm 4;wear 5;pull 6;penny 7;strike wheel 1,2;strokes 9;quarters 1 2 3 4;silent 0-23 stopped;"
            + "calendar months;reach 11;strike rack ((";
        ClockKeeper k = new ClockKeeper();
        Due.is("faulty", Due.clock(k, 0, 0, all), -9);
        Due.is("place", k.fault(), all.length());
        Due.is("without any", k.clock(0, 0, 0), 0);
        Due.is("run 8", k.told(0, 0), 8 * 1440);
        Due.is("strokes 400", k.told(0, 1), 400);
        Due.is("a rack", k.told(0, 2), -1);
        Due.is("strikes 1 next", k.told(0, 8), 1);
        k.warmth(20);
        Due.is("base 0, warm 0", k.rate(0), 0);
        k.pennies(0, 1);
        Due.is("penny 4", k.rate(0), 4);
        k.wait(60);
        Due.is("never silent, no quarters", k.count(5), 1);
        Due.is("its strokes", k.told(0, 1), 399);
        Due.is("reach 30", k.heard(15, 15, 59, 0), 1);
        Due.is("and not 31", k.heard(15, 16, 59, 0), 0);
        k.wait(3000);
        Due.is("wear 0, pull 0", k.rate(0), 4);
        ClockKeeper deep = new ClockKeeper();
        Due.is("open brackets", Due.clock(deep, 0, 0, "strike rack ((((((((1"), -9);
        Due.is("are closed for the next", Due.clock(deep, 0, 0, "strike rack ((((((((1))))))));"), 0);
        ClockKeeper plain = new ClockKeeper();
        Due.pass(plain, 58 * 1440);
        Due.is("faulty", Due.clock(plain, 0, 0, "calendar months;x"), -9);
        plain.clock(0, 0, 0);
        plain.wait(1440);
        Due.is("calendar plain", plain.told(0, 3), 29);
    }

    private static void refits() {
        ClockKeeper k = Due.with("base 10;run 4;strokes 150;strike wheel 1,2,3;penny 2;");
        k.wait(3000);
        k.pennies(0, 5);
        int dial = k.dial(0);
        int left = k.told(0, 0);
        int rings = k.told(0, 1);
        Due.is("PLACE before", k.told(0, 2), 2);
        Due.is("faulty", Due.refit(k, 0, "run 9;run 99;"), -8);
        Due.is("its place", k.fault(), 10);
        Due.is("the TAPE is empty", k.count(6), 0);
        Due.is("the old one stays", k.rate(0), 20);
        Due.is("PLACE stays", k.told(0, 2), 2);
        Due.is("well", Due.refit(k, 0, "run 9;strokes 160;strike wheel 4,5;penny 3;wear 100;"), 1);
        Due.is("no fault", k.fault(), -1);
        Due.is("DIAL stays", k.dial(0), dial);
        Due.is("DATE stays", k.told(0, 3), 3);
        Due.is("LEFT stays", k.told(0, 0), left);
        Due.is("RINGS stay", k.told(0, 1), rings);
        Due.is("PLACE is 0", k.told(0, 2), 0);
        Due.is("PENNIES and OILED stay", k.rate(0), 15 - 200);
        Due.is("smaller", Due.refit(k, 0, "run 1;strokes 3;"), 1);
        Due.is("LEFT not more than full", k.told(0, 0), 1440);
        Due.is("RINGS not more than full", k.told(0, 1), 3);
        Due.feed(k, "run 1;");
        Due.refused("no such clock", Due.ELEMENT, () -> k.refit(1, 6));
        Due.refused("n 21", Due.ARGUMENT, () -> k.refit(0, 21));
        Due.refused("n -1", Due.ARGUMENT, () -> k.refit(0, -1));
        Due.refused("both", Due.ELEMENT, () -> k.refit(-1, -1));
        Due.is("the TAPE is kept", k.count(6), 20);
    }
}
