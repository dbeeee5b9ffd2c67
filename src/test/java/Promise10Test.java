/** Promise 10, rate: "RATE in the MINUTE that comes (also if it STANDS)." */
public final class Promise10Test {
    private Promise10Test() {
    }

    public static void main(String[] args) {
        base();
        warmth();
        wear();
        tenths();
        mostTenths();
        pennies();
        fastestAndSlowest();
        alsoIfItStands();
        lastMinute();
        noSuchClock();
        Due.end();
    }

    private static void base() {
        Due.is("500", Due.with("base 500;").rate(0), 500);
        Due.is("-500", Due.with("base -500;").rate(0), -500);
        Due.is("0", Due.with("base 0;").rate(0), 0);
    }

    // "warm times (WARMTH of the HOUR less 15)", of the HOUR of the MINUTE that comes
    private static void warmth() {
        ClockKeeper k = Due.with("warm -7;");
        k.warmth(14);
        k.warmth(15);
        k.warmth(16);
        Due.is("14 degrees", k.rate(0), 7);
        k.wait(59);
        Due.is("the last MINUTE of the HOUR", k.rate(0), 7);
        k.wait(1);
        Due.is("15 degrees", k.rate(0), 0);
        k.wait(60);
        Due.is("16 degrees", k.rate(0), -7);
        k.wait(60);
        Due.is("none told", k.rate(0), 0);
        Due.is("DIAL by all of them", k.dial(0), 180 * 60000);
    }

    // "less wear times the DAYS since it was OILED (...; the number of this DAY less that of that one)"
    private static void wear() {
        ClockKeeper k = new ClockKeeper();
        k.wait(1439);
        Due.clock(k, 0, 0, "wear 7;");
        Due.is("as it comes", k.rate(0), 0);
        k.wait(1);
        Due.is("a MINUTE later, but a DAY", k.rate(0), -7);
        k.wait(1439);
        Due.is("that DAY's last MINUTE", k.rate(0), -7);
        k.wait(1);
        Due.is("the next DAY", k.rate(0), -14);
        k.oil(0);
        Due.is("OILED", k.rate(0), 0);
        k.wait(1440);
        Due.is("a DAY behind that", k.rate(0), -7);
    }

    // "TENTHS are 10 times the minutes that are gone of 1,440 run, by 1,440 run, cut"
    private static void tenths() {
        int[] runs = {1, 3};
        for (int run : runs) {
            ClockKeeper k = Due.with("run " + run + ";pull 5;");
            for (int tenth = 0; tenth <= 10; tenth++) {
                Due.is("run " + run + " at the TENTH " + tenth, k.rate(0), -5 * tenth);
                k.wait(tenth == 10 ? 0 : 144 * run - 1);
                Due.is("run " + run + " ahead of the TENTH " + (tenth + 1), k.rate(0), -5 * tenth);
                k.wait(tenth == 10 ? 0 : 1);
            }
        }
        ClockKeeper wound = Due.with("run 1;pull 5;");
        wound.wait(145);
        wound.wind(0, 0);
        Due.is("wound: none are gone", wound.rate(0), 0);
    }

    private static void mostTenths() {
        ClockKeeper k = Due.with("run 31;pull 500;");
        Due.pass(k, 31 * 1440 - 1);
        Due.is("a MINUTE is LEFT", k.rate(0), -4500);
        k.wait(1);
        Due.is("none is LEFT", k.rate(0), -5000);
    }

    // "penny times its PENNIES (-20 to 20; 0 at first)"
    private static void pennies() {
        ClockKeeper k = Due.with("penny 50;");
        Due.is("none at first", k.rate(0), 0);
        k.pennies(0, 20);
        Due.is("20", k.rate(0), 1000);
        k.pennies(0, -20);
        Due.is("-20", k.rate(0), -1000);
        k.pennies(0, 0);
        Due.is("none", k.rate(0), 0);
    }

    // all that makes it fast, and all that makes it slow; it still goes ahead
    private static void fastestAndSlowest() {
        ClockKeeper fast = Due.with("base 500;warm 500;penny 50;");
        fast.warmth(50);
        fast.pennies(0, 20);
        Due.is("fastest", fast.rate(0), 500 + 500 * 35 + 1000);
        fast.wait(1);
        Due.is("its DIAL", fast.dial(0), 60000 + 60 * 19);
        ClockKeeper slow = new ClockKeeper();
        slow.warmth(-30);
        Due.clock(slow, 0, 0, "base -500;warm 500;penny 50;");
        slow.pennies(0, -20);
        Due.is("slowest in the cold", slow.rate(0), -500 - 500 * 45 - 1000);
        slow.wait(1);
        Due.is("its DIAL", slow.dial(0), 60000 - 60 * 24);
        ClockKeeper worn = Due.with("base -500;wear 500;pull 500;penny 50;run 31;");
        worn.pennies(0, -20);
        Due.pass(worn, 100000);
        Due.is("slowest by wear", worn.rate(0), -500 - 500 * 69 - 500 * 10 - 1000);
    }

    // "(also if it STANDS)"
    private static void alsoIfItStands() {
        ClockKeeper k = Due.with("run 1;base 3;pull 2;wear 100;warm 1;");
        k.wait(1439);
        Due.is("its last MINUTE", k.rate(0), 3 - 18);
        k.wait(1);
        Due.is("it STANDS", k.rate(0), 3 - 20 - 100);
        k.wait(1440);
        Due.is("a DAY later", k.rate(0), 3 - 20 - 200);
        for (int i = 0; i <= 48; i++) {
            k.warmth(25);
        }
        Due.is("as warm as it is", k.rate(0), 3 - 20 - 200 + 10);
    }

    // in MINUTE 100,000, that doesn't come, HOUR 1,666
    private static void lastMinute() {
        ClockKeeper k = Due.with("base 5;wear 1;");
        Due.pass(k, 100000);
        Due.is("RATE", k.rate(0), 5 - 69);
    }

    private static void noSuchClock() {
        Town.needsClock("rate", (k, clock) -> k.rate(clock));
        Town.answers("rate of the last one", 0, k -> k.rate(Town.STANDING));
    }
}
