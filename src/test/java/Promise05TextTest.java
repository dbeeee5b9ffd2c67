/** Promise 5, clock: the TEXT of a CLOCK and its FAULTS, but for what a rack's E is (Promise05RackTest). */
public final class Promise05TextTest {
    private static final String RUNS = "run 1;".repeat(16);
    private static final String TEETH = "strike wheel 1" + ",1".repeat(23);

    private Promise05TextTest() {
    }

    public static void main(String[] args) {
        numbersWithin();
        numbersOutside();
        signed();
        words();
        whatCantStandThere();
        endsTooEarly();
        endsWhereToldTo();
        blanks();
        blanksBetweenNumbers();
        mostParts();
        mostTeeth();
        firstFromTheLeft();
        leastOfOne();
        lastOfAKind();
        withoutAnything();
        theTextNamesAll();
        Due.end();
    }

    private static int[] rateBehindADay(String text) {
        ClockKeeper k = Due.with("run 10;" + text);
        int at = k.rate(0);
        k.pennies(0, 1);
        int withPenny = k.rate(0);
        k.pennies(0, 0);
        k.warmth(16);
        int warmer = k.rate(0);
        k.wait(1440);
        return new int[] {at, withPenny - at, warmer - at, k.rate(0) - at};
    }

    // "run" N (1 to 31) and its like: the least and the most N count as they stand
    private static void numbersWithin() {
        int[] runs = {1, 31};
        for (int n : runs) {
            Due.is("LEFT of run " + n, Due.with("run " + n + ";").told(0, 0), 1440 * n);
        }
        int[] strokes = {1, 2000};
        for (int n : strokes) {
            Due.is("RINGS of strokes " + n, Due.with("strokes " + n + ";").told(0, 1), n);
        }
        int[] millionths = {0, 500};
        for (int n : millionths) {
            Due.is("RATE of base " + n, rateBehindADay("base " + n + ";")[0], n);
            Due.is("RATE by warm " + n, rateBehindADay("warm " + n + ";")[2], n);
            Due.is("RATE by wear " + n, rateBehindADay("wear " + n + ";")[3], -n);
            Due.is("RATE by pull " + n, rateBehindADay("pull " + n + ";")[3], -n);
        }
        int[] pennies = {0, 50};
        for (int n : pennies) {
            Due.is("RATE by penny " + n, rateBehindADay("penny " + n + ";")[1], n);
        }
        int[] teeth = {0, 12};
        for (int n : teeth) {
            Due.is("STRIKE of wheel " + n, Due.with("strike wheel " + n + ";").told(0, 8), n);
        }
        reaches();
        quarters();
        silentHours();
    }

    private static void reaches() {
        ClockKeeper k = new ClockKeeper();
        Due.clock(k, 0, 0, "reach 0;");
        Due.clock(k, 0, 0, "reach 200;");
        k.wait(60);
        Due.is("at the place", k.heard(0, 0, 59, 2), 3);
        Due.is("beside it", k.heard(0, 1, 59, 2), 2);
        Due.is("as FAR as can be", k.heard(99, 99, 59, 2), 2);
    }

    private static void quarters() {
        ClockKeeper k = Due.with("quarters 16 0 0 16;strike rack 0;");
        k.wait(60);
        Due.is("CHIMES of 16", k.sounding(0, 2), 16);
        Due.is("CHIMES of 16", k.sounding(1, 2), 16);
        Due.is("CHIMES of 0 are none", k.count(5), 2);
        ClockKeeper other = Due.with("quarters 0 16 16 0;strike rack 0;");
        other.wait(60);
        Due.is("the 2nd and the 3rd", other.count(5), 2);
        Due.is("their RINGS", other.told(0, 1), 400 - 32);
    }

    private static void silentHours() {
        ClockKeeper k = new ClockKeeper();
        Due.clock(k, 0, 0, "silent 0-23 held;strike rack 1;");
        Due.clock(k, 0, 0, "silent 23-0 held;strike rack 1;");
        k.wait(1439);
        Due.is("hours that are heard", k.count(5), 1 + 22);
        Due.is("hour 23 is heard of the first alone", k.sounding(0, 0), 0);
        k.wait(1);
        Due.is("hour 0 is heard of the second alone", k.sounding(0, 0), 1);
    }

    // 2 "an N that is none such", "at its first byte"; N: "digits, as many as stand there"
    private static void numbersOutside() {
        String[] ahead = {"run ", "wear ", "pull ", "penny ", "strokes ", "reach ", "strike wheel ", "strike wheel 1,", "base ", "warm ",
            "quarters ", "quarters 0 ", "quarters 0 0 ", "quarters 0 0 0 ", "silent ", "silent 0-"};
        int[] least = {1, 0, 0, 0, 1, 0, 0, 0, 0, 0, 0, 0, 0, 0, 0, 0};
        int[] most = {31, 500, 500, 50, 2000, 200, 12, 12, 500, 500, 16, 16, 16, 16, 23, 23};
        String[] behind = {";", ";", ";", ";", ";", ";", ";", ";", ";", ";", " 0 0 0;", " 0 0;", " 0;", ";", "-0 held;", "held;"};
        for (int i = 0; i < ahead.length; i++) {
            Due.fine(ahead[i] + least[i] + behind[i]);
            Due.fine(ahead[i] + most[i] + behind[i]);
            Due.fine(ahead[i] + "000000000000" + most[i] + behind[i]);
            Due.faulty(ahead[i] + (most[i] + 1) + behind[i], 2, ahead[i].length());
            Due.faulty(ahead[i] + "4294967297" + behind[i], 2, ahead[i].length());
            Due.faulty(ahead[i] + "18446744073709551617" + behind[i], 2, ahead[i].length());
            if (least[i] > 0) {
                Due.faulty(ahead[i] + "0" + behind[i], 2, ahead[i].length());
                Due.faulty(ahead[i] + "000" + behind[i], 2, ahead[i].length());
            }
        }
        Due.faulty("run   32;", 2, 6);
        Due.faulty("run0", 2, 3);
    }

    // V: "-" or none, and N (0 to 500)
    private static void signed() {
        Due.is("base -500", Due.with("base -500;").rate(0), -500);
        Due.is("base -0", Due.with("base -0;").rate(0), 0);
        Due.is("base - 1", Due.with("base - 1;").rate(0), -1);
        Due.is("warm -500", rateBehindADay("warm -500;")[2], -500);
        Due.faulty("base -501;", 2, 6);
        Due.faulty("warm - 501;", 2, 7);
        Due.faulty("base --1;", 1, 6);
        Due.faulty("base +1;", 1, 5);
        Due.faulty("base -;", 1, 6);
        Due.faulty("base 1-;", 1, 6);
        Due.faulty("wear -1;", 1, 5);
        Due.faulty("run -1;", 1, 4);
        Due.faulty("penny -1;", 1, 6);
        Due.faulty("strike wheel -1;", 1, 13);
    }

    // WORDS: "small letters, as many as stand there"
    private static void words() {
        Due.faulty("ru 8;", 1, 0);
        Due.faulty("runs 8;", 1, 0);
        Due.faulty("runa 8;", 1, 0);
        Due.faulty("runz 8;", 1, 0);
        Due.faulty("sun 8;", 1, 0);
        Due.faulty("zun 8;", 1, 0);
        Due.faulty("strike sack 1;", 1, 7);
        Due.faulty("strike rack four;", 1, 12);
        Due.faulty("silent 1-2 weld;", 1, 11);
        Due.faulty("calendar heap;", 1, 9);
        Due.faulty("Run 8;", 1, 0);
        Due.faulty("rUn 8;", 1, 0);
        Due.faulty("run`8;", 1, 3);
        Due.faulty("run{8;", 1, 3);
        Due.faulty("run/8;", 1, 3);
        Due.faulty("run:8;", 1, 3);
        Due.faulty("strikes rack 1;", 1, 0);
        Due.faulty("strike racks 1;", 1, 7);
        Due.faulty("strike wheels 1;", 1, 7);
        Due.faulty("strikerack 1;", 1, 0);
        Due.faulty("stroke 1;", 1, 0);
        Due.faulty("strike Rack 1;", 1, 7);
        Due.faulty("silent 0-1 hold;", 1, 11);
        Due.faulty("silent 0-1 stoppedheld;", 1, 11);
        Due.faulty("calendar leaps;", 1, 9);
        Due.faulty("calendar plainmonths;", 1, 9);
        Due.faulty("quarter 1 2 3 4;", 1, 0);
        Due.faulty("reaches 1;", 1, 0);
    }

    // 1 "what can't stand there", "at its first byte"
    private static void whatCantStandThere() {
        Due.faulty(";", 1, 0);
        Due.faulty("8;", 1, 0);
        Due.faulty("run 8;;", 1, 6);
        Due.faulty("run ;", 1, 4);
        Due.faulty("run run;", 1, 4);
        Due.faulty("run 8 9;", 1, 6);
        Due.faulty("run 8x;", 1, 5);
        Due.faulty("run 8,;", 1, 5);
        Due.faulty("run 1/;", 1, 5);
        Due.faulty("run 1:;", 1, 5);
        Due.faulty("strike 1;", 1, 7);
        Due.faulty("strike;", 1, 6);
        Due.faulty("strike wheel;", 1, 12);
        Due.faulty("strike wheel,1;", 1, 12);
        Due.faulty("strike wheel 1,;", 1, 15);
        Due.faulty("strike wheel 1,,1;", 1, 15);
        Due.faulty("strike wheel 1 2;", 1, 15);
        Due.faulty("quarters 1 2 3;", 1, 14);
        Due.faulty("quarters 1 2 3 4 5;", 1, 17);
        Due.faulty("quarters 1,2,3,4;", 1, 10);
        Due.faulty("silent held;", 1, 7);
        Due.faulty("silent 22 6 held;", 1, 10);
        Due.faulty("silent 22+6 held;", 1, 9);
        Due.faulty("silent 22-6;", 1, 11);
        Due.faulty("silent 22-6 held held;", 1, 17);
        Due.faulty("calendar 1;", 1, 9);
        Due.faulty("calendar;", 1, 8);
        Due.faulty("calendar plain leap;", 1, 15);
        Due.faulty("run 8;\u00ff", 1, 6);
        Due.faulty("\u0000", 1, 0);
    }

    // 1 "(at the length, if the text ends too early)"
    private static void endsTooEarly() {
        String[] texts = {"run", "run ", "run 8", "run 8   ", "base -", "base - ", "strike", "strike ", "strike wheel", "strike wheel 1",
            "strike wheel 1,", "strike wheel 1, ", "strike rack", "strike rack ", "strike rack 1", "strike rack 1+", "strike rack (",
            "strike rack (1", "strike rack (1)", "strike rack if", "strike rack if(", "strike rack if(1", "strike rack if(1<",
            "strike rack if(1<1", "strike rack if(1<1,", "strike rack if(1<1,1", "strike rack if(1<1,1,", "strike rack if(1<1,1,1",
            "strike rack if(1<1,1,1)", "quarters", "quarters 1", "quarters 1 1 1", "quarters 1 1 1 1", "silent", "silent 1", "silent 1-",
            "silent 1-1", "silent 1-1 ", "silent 1-1 held", "calendar", "calendar plain", "run 8;run 8"};
        for (String text : texts) {
            Due.faulty(text, 1, text.length());
        }
        Due.fine("");
        Due.fine("run 8;");
    }

    // "The first n bytes of the TAPE": what stands behind them there is no part of the TEXT
    private static void endsWhereToldTo() {
        String text = " run 8; base - 77;strike wheel 1 ,12;strike rack if(hour<12,(date+1)%31, month )*22;quarters 1 2 13 4;"
            + "silent 22-23 stopped;calendar leap; reach 200 ;";
        for (int n = 0; n <= text.length(); n++) {
            ClockKeeper more = new ClockKeeper();
            ClockKeeper none = new ClockKeeper();
            Due.feed(more, text);
            int due = Due.clock(none, 0, 0, text.substring(0, n));
            Due.is("the first " + n, more.clock(0, 0, n), due);
            Due.is("its place of the first " + n, more.fault(), none.fault());
        }
        ClockKeeper digits = new ClockKeeper();
        Due.feed(digits, "strokes 12;");
        Due.is("ahead of a number", digits.clock(0, 0, 8), -9);
        Due.is("at the length", digits.fault(), 8);
        Due.feed(digits, "runs 12;");
        Due.is("within a word", digits.clock(0, 0, 3), -9);
        Due.is("at the length", digits.fault(), 3);
        Due.feed(digits, "strike rack 1+hour;");
        Due.is("within the word of a rack", digits.clock(0, 0, 17), -9);
        Due.is("at its first byte", digits.fault(), 14);
    }

    // "blanks (32) may stand ahead of all these, and at the end"
    private static void blanks() {
        Due.fine(" ");
        Due.fine(" ".repeat(400));
        Due.fine("  run  8  ;  base  -  5  ;  strike  wheel  1  ,  2  ;  quarters  1  2  3  4  ;  silent  1  -  2  held  ;  ");
        Due.fine("  strike  rack  if  (  hour  <  1  ,  date  %  2  ,  (  month  +  3  )  )  *  4  ;  calendar  leap  ;  ");
        Due.fine("run8;base-5;strike wheel1,2;quarters1 2 3 4;silent1-2held;strike rack(hour)*if(1<2,3,4);");
        Due.faulty("ru n 8;", 1, 0);
        Due.is("a blank parts two N", Due.with("run 1;strokes 1 ;").told(0, 1), 1);
        int[] others = {0, 9, 10, 13, 31, 33, 160, 255};
        for (int sign : others) {
            Due.faulty("run " + (char) sign + "8;", 1, 4);
            Due.faulty("run 8;" + (char) sign, 1, 6);
        }
    }

    // "one at least between two N that no sign parts": without it they are one N
    private static void blanksBetweenNumbers() {
        Due.faulty("quarters 1 2 34;", 2, 13);
        Due.faulty("quarters 1 234;", 2, 11);
        Due.faulty("quarters 1 2 3;", 1, 14);
        Due.fine("quarters 16 16 16 16;");
        Due.faulty("run 3 1;", 1, 6);
    }

    // "At most 16 PARTS"; 3 "a 17th PART", "at its first byte"
    private static void mostParts() {
        Due.fine("run 1;".repeat(15));
        Due.fine(RUNS);
        Due.fine(RUNS + "   ");
        Due.faulty(RUNS + "run 1;", 3, 96);
        Due.faulty(RUNS + "  run 1;", 3, 98);
        Due.faulty(RUNS + "strike", 3, 96);
        Due.faulty(RUNS + "run 32;", 3, 96);
        Due.faulty(RUNS + "run 1;run 1;", 3, 96);
        Due.fine("run 1;wear 1;pull 1;penny 1;strokes 1;reach 1;base 1;warm 1;".repeat(2));
    }

    // "24 at most"; 3 "a 25th N of a wheel", "at its first byte"
    private static void mostTeeth() {
        Due.fine("strike wheel 1" + ",1".repeat(22) + ";");
        ClockKeeper k = Due.with("strike wheel 1" + ",0".repeat(22) + ",7;");
        Due.is("a LIFT to the 24th", k.trip(0, false), 23);
        Due.is("the 24th counts", k.told(0, 8), 7);
        Due.faulty(TEETH + ",1;", 3, 61);
        Due.faulty(TEETH + ",  1;", 3, 63);
        Due.faulty(TEETH + ",1,1;", 3, 61);
        Due.faulty(TEETH + ",1", 3, 61);
        Due.fine(TEETH + ";strike wheel 1;" + TEETH + ";");
    }

    // "FAULTS, the first from the left"
    private static void firstFromTheLeft() {
        Due.faulty("run 32;bell;", 2, 4);
        Due.faulty("run 32 bell", 2, 4);
        Due.faulty("bell;run 32;", 1, 0);
        Due.faulty("run 8 32;", 1, 6);
        Due.faulty("base -501 501;", 2, 6);
        Due.faulty("silent 24-24 x;", 2, 7);
        Due.faulty("silent 23-24 x;", 2, 10);
        Due.faulty("quarters 17 17;", 2, 9);
        Due.faulty(TEETH + ",1,99;", 3, 61);
        Due.faulty("strike wheel 99" + ",1".repeat(24) + ";", 2, 13);
        Due.faulty("run 99;" + RUNS, 2, 4);
        Due.faulty(RUNS + "run 99;", 3, 96);
    }

    // "of one the least"
    private static void leastOfOne() {
        Due.faulty(RUNS + ";", 1, 96);
        Due.faulty(RUNS + "bell 1;", 1, 96);
        Due.faulty(RUNS + "Run 1;", 1, 96);
        Due.faulty(RUNS + "1;", 1, 96);
        Due.faulty(TEETH + ",13;", 2, 61);
        Due.faulty(TEETH + ",;", 1, 61);
        Due.faulty(TEETH + ",x;", 1, 61);
        Due.faulty(TEETH + ",", 1, 61);
    }

    // "of a kind the last one counts"
    private static void lastOfAKind() {
        ClockKeeper k = Due.with("run 3;strokes 9;base 4;strike wheel 1,2;reach 99;quarters 9 9 9 9;run 2;strokes 80;base -3;strike rack 7;"
            + "reach 3;quarters 1 0 0 2;");
        Due.is("run", k.told(0, 0), 2880);
        Due.is("strokes", k.told(0, 1), 80);
        Due.is("base", k.rate(0), -3);
        Due.is("strike rack behind a wheel", k.told(0, 2), -1);
        Due.is("its STRIKE", k.told(0, 8), 7);
        k.wait(61);
        Due.is("quarters", k.told(0, 1), 80 - 1 - 2 - 7);
        Due.is("reach", k.heard(2, 1, 60, 0), 9);
        Due.is("no farther", k.heard(2, 2, 60, 0), 0);
        int[] rates = rateBehindADay("warm 9;wear 9;pull 9;penny 9;warm 1;wear 2;pull 5;penny 3;");
        Due.is("warm", rates[2], 1);
        Due.is("wear and pull", rates[3], -7);
        Due.is("penny", rates[1], 3);
        ClockKeeper wheel = Due.with("strike rack 7;strike wheel 1,2,3;strike wheel 5,6;");
        Due.is("strike wheel behind others", wheel.told(0, 8), 5);
        wheel.trip(0, true);
        Due.is("its length", wheel.trip(0, true), 0);
        ClockKeeper night = Due.with("silent 0-23 stopped;silent 5-6 held;");
        night.wait(60);
        Due.is("silent", night.count(5), 1);
        ClockKeeper held = Due.with("silent 0-2 stopped;silent 0-2 held;");
        held.wait(60);
        Due.is("held behind stopped", held.told(0, 1), 399);
        ClockKeeper month = new ClockKeeper();
        month.leap(true);
        Due.pass(month, 59 * 1440);
        Due.clock(month, 0, 0, "calendar leap;calendar plain;calendar months;");
        Due.clock(month, 0, 0, "calendar months;calendar leap;calendar plain;");
        Due.clock(month, 0, 0, "calendar plain;calendar months;calendar leap;");
        month.leap(false);
        month.wait(1440);
        Due.is("calendar months", month.told(0, 3), 1);
        Due.is("calendar plain", month.told(1, 3), 30);
        Due.is("calendar leap", month.told(2, 3), 1);
    }

    /** One CLOCK alone, just come at the place 0, 0 on DAY 58 of a year that isn't LEAP, by a TEXT that tells nothing. */
    static void isAsWithout(ClockKeeper k) {
        Due.is("run 8", k.told(0, 0), 8 * 1440);
        Due.is("strokes 400", k.told(0, 1), 400);
        Due.is("strike rack", k.told(0, 2), -1);
        Due.is("base 0", k.rate(0), 0);
        k.pennies(0, 1);
        Due.is("penny 4", k.rate(0), 4);
        k.pennies(0, 0);
        k.wait(60);
        Due.is("quarters 0 0 0 0, never silent", k.count(5), 1);
        Due.is("reach 30", k.heard(0, 30, 58 * 1440 + 59, 0), 1);
        Due.is("and not 31", k.heard(1, 30, 58 * 1440 + 59, 0), 0);
        for (int hour = 2; hour <= 24; hour++) {
            int due = (hour + 11) % 12 + 1;
            Due.is("strike rack (hour+11)%12+1 ahead of " + hour, k.told(0, 8), due);
            k.wait(60);
            Due.is("STRIKE of " + hour, k.sounding(0, 3), due);
            Due.is("CHIME of " + hour, k.sounding(0, 2), 0);
        }
        Due.is("SOUNDINGS", k.count(5), 24);
        Due.is("calendar plain", k.told(0, 3), 29);
        Due.is("of month 2", k.told(0, 4), 2);
        Due.is("wear 0, pull 0", k.rate(0), 0);
    }

    // "Without: run 8, base, warm, wear, pull 0, penny 4, ..., never silent, calendar plain, reach 30."
    private static void withoutAnything() {
        ClockKeeper k = new ClockKeeper();
        Due.pass(k, 58 * 1440);
        k.clock(0, 0, 0);
        isAsWithout(k);
        ClockKeeper warm = Due.with("");
        warm.warmth(50);
        Due.is("warm 0 in the heat", warm.rate(0), 0);
        warm.wait(10000);
        Due.is("wear 0, pull 0 behind six DAYS", warm.rate(0), 0);
    }

    // each kind of PART in one TEXT, none taken for another
    private static void theTextNamesAll() {
        ClockKeeper k = Due.with("run 10;base 11;warm 12;wear 13;pull 14;penny 5;strike wheel 3,9;strokes 900;quarters 1 2 3 4;"
            + "silent 22-6 stopped;calendar leap;reach 17;");
        Due.is("LEFT", k.told(0, 0), 14400);
        Due.is("RINGS", k.told(0, 1), 900);
        Due.is("RATE", k.rate(0), 11);
        k.pennies(0, 2);
        Due.is("with PENNIES", k.rate(0), 21);
        k.wait(1440);
        k.warmth(50);
        Due.is("RATE behind a DAY", k.rate(0), 21 - 13 - 14);
        Due.is("RINGS from 6 to 21 o'clock", k.told(0, 1), 900 - 16 * (1 + 2 + 3 + 4) - 8 * (3 + 9));
    }
}
