/** Promises 1 to 3 and 7 to 16: time, warmth, rates, dials, winding, oil, hands, dates and pennies. */
public final class GoingTest {
    private GoingTest() {
    }

    public static void main(String[] args) {
        newObject();
        warmth();
        waiting();
        rates();
        dialsAndErrors();
        standing();
        told();
        oil();
        hands();
        handsThatLet();
        dates();
        leapYears();
        wholeYears();
        pennies();
        Due.end();
    }

    private static void newObject() {
        ClockKeeper k = new ClockKeeper();
        for (int what = 0; what <= 6; what++) {
            Due.is("count(" + what + ") of a new one", k.count(what), 0);
        }
        Due.is("the true date", k.count(7), 1);
        Due.is("the true month", k.count(8), 1);
        Due.is("fault() of a new one", k.fault(), -1);
        Due.is("sounding of a new one", k.sounding(0, 0), -1);
        Due.is("lawful of a new one", k.lawful(0, 0), -1);
        Due.refused("dial of a new one", Due.ELEMENT, () -> k.dial(0));
    }

    private static void warmth() {
        ClockKeeper k = Due.with("warm 10;base 1;");
        Due.is("warmth of the 1st hour", k.warmth(-30), 1);
        Due.is("of the 2nd", k.warmth(50), 2);
        Due.refused("51", Due.ARGUMENT, () -> k.warmth(51));
        Due.refused("-31", Due.ARGUMENT, () -> k.warmth(-31));
        Due.is("told", k.count(2), 2);
        Due.is("RATE when cold", k.rate(0), 1 - 450);
        k.wait(59);
        Due.is("RATE in the last minute of the hour", k.rate(0), 1 - 450);
        k.wait(1);
        Due.is("RATE when hot", k.rate(0), 1 + 350);
        k.wait(60);
        Due.is("RATE when none is told", k.rate(0), 1);
        Due.is("warmth of the hour that is", k.warmth(16), 3);
        Due.is("RATE then", k.rate(0), 11);
        ClockKeeper many = new ClockKeeper();
        for (int i = 1; i <= 1700; i++) {
            many.warmth(0);
        }
        Due.is("the 1701st", many.warmth(0), -1);
        Due.is("told most", many.count(2), 1700);
        Due.refused("none such, when all are told", Due.ARGUMENT, () -> many.warmth(51));
    }

    private static void waiting() {
        ClockKeeper k = new ClockKeeper();
        Due.is("wait(0)", k.wait(0), 0);
        Due.refused("-1", Due.ARGUMENT, () -> k.wait(-1));
        Due.refused("10001", Due.ARGUMENT, () -> k.wait(10001));
        for (int i = 1; i < 10; i++) {
            Due.is("wait(10000)", k.wait(10000), 10000 * i);
        }
        Due.is("wait(9999)", k.wait(9999), 99999);
        Due.refused("above 100000", Due.STATE, () -> k.wait(2));
        Due.refused("both", Due.ARGUMENT, () -> k.wait(10001));
        Due.is("nothing went by", k.count(0), 99999);
        Due.is("the last one", k.wait(1), 100000);
        Due.is("wait(0) then", k.wait(0), 100000);
        Due.refused("above 100000", Due.STATE, () -> k.wait(1));
        Due.is("the true date", k.count(7), 11);
        Due.is("the true month", k.count(8), 3);
    }

    private static void rates() {
        ClockKeeper k = Due.with("base -100;wear 7;pull 3;penny 5;run 2;");
        Due.is("at first", k.rate(0), -100);
        k.wait(287);
        Due.is("TENTHS are 0 still", k.rate(0), -100);
        k.wait(1);
        Due.is("a TENTH is gone", k.rate(0), -103);
        k.wait(1151);
        Due.is("4 of them, still that day", k.rate(0), -112);
        k.wait(1);
        Due.is("5, and a DAY", k.rate(0), -100 - 15 - 7);
        k.wait(5000);
        Due.is("all when it stands", k.rate(0), -100 - 30 - 28);
        k.pennies(0, 20);
        Due.is("with PENNIES", k.rate(0), -158 + 100);
        k.wind(0, 0);
        Due.is("wound", k.rate(0), -28);
        k.oil(0);
        Due.is("OILED", k.rate(0), 0);
        Due.refused("no such clock", Due.ELEMENT, () -> k.rate(1));
        Due.refused("no such clock", Due.ELEMENT, () -> k.rate(-1));
    }

    private static void dialsAndErrors() {
        ClockKeeper k = Due.with("base -7;");
        k.wait(1);
        // 60 seconds less 420 millionths
        Due.is("dial cut", k.dial(0), 59999);
        Due.is("error cut toward 0", k.error(0), 0);
        k.wait(2);
        Due.is("error of 1,260 millionths", k.error(0), -1);
        k.wait(1437);
        Due.is("at the end of the day", k.dial(0), 86399395);
        Due.is("error over midnight", k.error(0), -604);
        Due.is("DATE is not yet turned", k.told(0, 3), 1);
        k.wait(1);
        Due.is("DATE is turned", k.told(0, 3), 2);
        ClockKeeper half = Due.with("");
        half.hands(0, 43200, false);
        Due.is("half a day is behind", half.error(0), -43200000);
        half.hands(0, -1, false);
        Due.is("a second less is ahead", half.error(0), 43199000);
        ClockKeeper late = new ClockKeeper();
        late.wait(100);
        late.clock(0, 0, 0);
        Due.is("a clock that came late", late.error(0), -6000000);
        late.wait(1);
        Due.is("its dial", late.dial(0), 60000);
        Due.refused("no such clock", Due.ELEMENT, () -> late.dial(1));
        Due.refused("no such clock", Due.ELEMENT, () -> late.error(-1));
    }

    private static void standing() {
        ClockKeeper k = Due.with("run 1;");
        k.wait(1439);
        Due.is("one is LEFT", k.told(0, 0), 1);
        Due.is("it goes", k.told(0, 5), 0);
        k.wait(1);
        Due.is("none is LEFT", k.told(0, 0), 0);
        Due.is("it STANDS", k.told(0, 5), 1);
        Due.is("its DIAL came round", k.dial(0), 0);
        k.wait(30);
        Due.is("DIAL of one that STANDS", k.dial(0), 0);
        Due.is("its error", k.error(0), -1800000);
        Due.is("wind", k.wind(0, 0), 0);
        Due.is("full", k.told(0, 0), 1440);
        k.wait(1);
        Due.is("it goes again", k.dial(0), 60000);
        Due.is("wind the strike", k.wind(0, 1), 400 - 24 * 13 / 2);
        Due.is("full", k.told(0, 1), 400);
        Due.refused("which -1", Due.ARGUMENT, () -> k.wind(0, -1));
        Due.refused("which 2", Due.ARGUMENT, () -> k.wind(0, 2));
        Due.refused("no such clock", Due.ELEMENT, () -> k.wind(1, 2));
    }

    private static void told() {
        ClockKeeper k = Due.with("strike rack date*10+month;");
        Due.is("strokes are 24 at most", told8("strike rack date*10+date*10+date*10;", 0), 24);
        Due.is("and 0 at least", told8("strike rack 0-date;", 0), 0);
        Due.is("hour that comes", told8("strike rack hour;", 59), 1);
        Due.is("hour that comes behind", told8("strike rack hour;", 60), 2);
        Due.is("midnight is hour 0", told8("strike rack hour+5;", 1430), 5);
        Due.is("the DATE is turned at midnight", told8("strike rack date;", 1430), 2);
        Due.is("before it isn't", told8("strike rack date;", 1370), 1);
        Due.is("the month is turned at midnight", told8("strike rack month;calendar months;run 31;", 31 * 1440 - 5), 2);
        Due.is("SILENT or not", told8("strike rack 3;silent 0-5 stopped;", 0), 3);
        Due.is("if RINGS are enough", told8("strike rack 3;strokes 1;", 0), 3);
        Due.is("wrapping", told8("strike rack 99*99*99*99*99-if(99*99*99*99*99=if(1=1,0,1)-79*99*99+8,1,2);", 0), 24);
        Due.is("by 0", told8("strike rack 5/0+5%0+7;", 0), 7);
        Due.is("cut", told8("strike rack 10+(0-7)/2;", 0), 7);
        Due.is("what is left has the sign", told8("strike rack 10+(0-7)%4;", 0), 7);
        Due.is("from the left", told8("strike rack 20-3-2*3%4;", 0), 15);
        Due.is("less", told8("strike rack if(1<2,3,4)+if(2<2,1,11)+if(3<2,0,5);", 0), 19);
        Due.is("more", told8("strike rack if(2>1,3,4)+if(2>2,1,11)+if(2>3,0,5);", 0), 19);
        Due.is("alike", told8("strike rack if(2=2,3,4)+if(1=2,1,11)+if(2=1,0,5);", 0), 19);
        Due.is("plain hours at 0", told8("", 1430), 12);
        Due.is("plain hours at 13", told8("", 730), 1);
        Due.refused("what -1", Due.ARGUMENT, () -> k.told(0, -1));
        Due.refused("what 9", Due.ARGUMENT, () -> k.told(0, 9));
        Due.refused("no such clock", Due.ELEMENT, () -> k.told(1, 9));
    }

    private static int told8(String text, int minute) {
        ClockKeeper k = Due.with(text);
        Due.pass(k, minute);
        return k.told(0, 8);
    }

    private static void oil() {
        ClockKeeper k = new ClockKeeper();
        k.wait(1430);
        k.clock(0, 0, 0);
        Due.is("that day", k.oil(0), 0);
        k.wait(10);
        Due.is("DAYS by their numbers", k.oil(0), 1);
        Due.is("again", k.oil(0), 0);
        k.wait(4320);
        Due.is("three later", k.oil(0), 3);
        Due.refused("no such clock", Due.ELEMENT, () -> k.oil(1));
    }

    private static void hands() {
        ClockKeeper k = Due.with("");
        Due.is("an hour, come to", k.hands(0, 3600, false), 1);
        Due.is("short of the next", k.hands(0, 3599, false), 0);
        Due.is("to it", k.hands(0, 1, false), 1);
        Due.is("from it", k.hands(0, 1, false), 0);
        Due.is("back past it", k.hands(0, -2, false), 0);
        Due.is("dial", k.dial(0), 7199000);
        Due.is("back over midnight", k.hands(0, -7200, false), 0);
        Due.is("dial", k.dial(0), 86399000);
        Due.is("over midnight", k.hands(0, 43200, false), 12);
        Due.is("the DATE stays", k.told(0, 3), 1);
        Due.is("RINGS stay", k.told(0, 1), 400);
        Due.is("back most", k.hands(0, -43200, false), 0);
        Due.is("nowhere", k.hands(0, 0, true), 0);
        Due.is("dial", k.dial(0), 86399000);
        Due.refused("43201", Due.ARGUMENT, () -> k.hands(0, 43201, true));
        Due.refused("-43201", Due.ARGUMENT, () -> k.hands(0, -43201, true));
        Due.refused("no such clock", Due.ELEMENT, () -> k.hands(1, 43201, true));
    }

    private static void handsThatLet() {
        ClockKeeper k = Due.with("quarters 1 2 3 4;strike wheel 5,6,7;strokes 100;silent 2-3 stopped;");
        Due.is("to the 3rd quarter", k.hands(0, 2700, true), 0);
        Due.is("RINGS of three chimes", k.told(0, 1), 94);
        Due.is("to the hour and on", k.hands(0, 910, true), 1);
        Due.is("RINGS of the hour", k.told(0, 1), 85);
        Due.is("PLACE", k.told(0, 2), 1);
        Due.is("past an hour that is stopped", k.hands(0, 3600, true), 1);
        Due.is("three quarters sounded", k.told(0, 1), 79);
        Due.is("PLACE stays", k.told(0, 2), 1);
        Due.is("back", k.hands(0, -7200, true), 0);
        Due.is("nothing sounds backward", k.told(0, 1), 79);
        Due.is("unheard", k.count(5), 0);
        ClockKeeper night = Due.with("strike rack date+hour;");
        night.hands(0, -1800, false);
        Due.is("over midnight", night.hands(0, 3600, true), 1);
        Due.is("the DATE stays as it strikes", night.told(0, 1), 399);
        Due.is("and behind", night.told(0, 3), 1);
        ClockKeeper still = Due.with("run 1;");
        still.wait(1440);
        int rings = still.told(0, 1);
        Due.is("one that STANDS strikes too", still.hands(0, 3600, true), 1);
        Due.is("its RINGS", still.told(0, 1), rings - 1);
        Due.is("soundings", still.count(5), 24);
    }

    private static void dates() {
        ClockKeeper k = new ClockKeeper();
        Due.clock(k, 0, 0, "run 31;");
        Due.clock(k, 0, 0, "run 31;calendar months;");
        Due.pass(k, 31 * 1440);
        k.wind(0, 0);
        k.wind(1, 0);
        Due.is("plain: behind 31 it is 1", k.told(0, 3), 1);
        Due.is("of month 2", k.told(0, 4), 2);
        Due.is("right", k.told(0, 6), 1);
        Due.pass(k, 28 * 1440);
        Due.is("plain: behind 28 it is 29", k.told(0, 3), 29);
        Due.is("of month 2", k.told(0, 4), 2);
        Due.is("not right", k.told(0, 6), 0);
        Due.is("months: it is 1", k.told(1, 3), 1);
        Due.is("of month 3", k.told(1, 4), 3);
        Due.is("right", k.told(1, 6), 1);
        Due.is("put right", k.date(0), 1);
        Due.is("it was right", k.date(0), 0);
        Due.is("DATE", k.told(0, 3), 1);
        Due.is("month", k.told(0, 4), 3);
        Due.refused("no such clock", Due.ELEMENT, () -> k.date(2));
        ClockKeeper odd = new ClockKeeper();
        Due.pass(odd, 31 * 1440);
        Due.clock(odd, 0, 0, "");
        Due.pass(odd, 3 * 1440);
        odd.hands(0, -1, false);
        odd.wait(1);
        Due.is("a day twice over", odd.told(0, 3), 5);
    }

    private static void leapYears() {
        ClockKeeper k = new ClockKeeper();
        Due.is("no leap year at first", k.leap(true) ? 1 : 0, 0);
        Due.is("then it is", k.leap(true) ? 1 : 0, 1);
        Due.clock(k, 0, 0, "run 31;calendar leap;");
        Due.clock(k, 0, 0, "run 31;calendar months;");
        Due.pass(k, 30 * 1440);
        k.wind(0, 0);
        k.wind(1, 0);
        Due.pass(k, 29 * 1440);
        Due.is("29th of month 2", k.told(0, 3), 29);
        Due.is("true", k.count(7), 29);
        Due.is("true month", k.count(8), 2);
        Due.is("months knows none", k.told(1, 3), 1);
        Due.is("it is wrong", k.told(1, 6), 0);
        Due.is("it was leap", k.leap(false) ? 1 : 0, 1);
        Due.is("now it is the 1st", k.count(7), 1);
        Due.is("of month 3", k.count(8), 3);
        Due.is("months is right now", k.told(1, 6), 1);
        k.leap(true);
        k.wait(1440);
        Due.is("the day behind", k.count(7), 1);
        Due.is("is of month 3", k.count(8), 3);
        Due.is("on the clock too", k.told(0, 6), 1);
        k.hands(0, -1, false);
        k.leap(false);
        Due.refit(k, 0, "run 31;calendar leap;");
        Due.is("leap is wrong now", k.told(0, 6), 0);
        ClockKeeper late = new ClockKeeper();
        late.leap(true);
        Due.pass(late, 59 * 1440);
        Due.clock(late, 0, 0, "calendar leap;");
        Due.is("29th of month 2", late.told(0, 3), 29);
        late.leap(false);
        late.wait(1440);
        Due.is("behind a 29th that isn't it is 1", late.told(0, 3), 1);
        Due.is("of month 3", late.told(0, 4), 3);
    }

    /** The DATE goes on by a day each time that the hands are put back and midnight comes again. */
    private static void wholeYears() {
        String[] calendars = {"plain", "months", "leap"};
        int[][] days = {{31, 31, 31, 31, 31, 31, 31, 31, 31, 31, 31, 31}, {31, 28, 31, 30, 31, 30, 31, 31, 30, 31, 30, 31},
            {31, 29, 31, 30, 31, 30, 31, 31, 30, 31, 30, 31}};
        for (int i = 0; i < 3; i++) {
            ClockKeeper k = Due.with("run 31;calendar " + calendars[i] + ";");
            k.leap(true);
            k.hands(0, -60, false);
            for (int month = 1; month <= 14; month++) {
                for (int date = 1; date <= days[i][(month - 1) % 12]; date++) {
                    Due.is("DATE of " + calendars[i], k.told(0, 3), date);
                    Due.is("month of " + calendars[i], k.told(0, 4), (month - 1) % 12 + 1);
                    k.wait(1);
                    k.hands(0, -60, false);
                }
            }
        }
    }

    private static void pennies() {
        ClockKeeper k = Due.with("");
        Due.is("0 at first", k.pennies(0, 20), 0);
        Due.is("a penny is 4 without", k.rate(0), 80);
        Due.is("20", k.pennies(0, -20), 20);
        Due.is("-20", k.pennies(0, 0), -20);
        Due.refused("21", Due.ARGUMENT, () -> k.pennies(0, 21));
        Due.refused("-21", Due.ARGUMENT, () -> k.pennies(0, -21));
        Due.refused("no such clock", Due.ELEMENT, () -> k.pennies(1, 21));
        Due.is("0", k.pennies(0, 0), 0);
    }
}
