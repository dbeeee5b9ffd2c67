/** Promise 27, reckoned: "ERROR reckoned for a MINUTE (0 to 100,000) as KNOWN in another one; VOID: none." */
public final class Promise27Test {
    private Promise27Test() {
    }

    public static void main(String[] args) {
        without();
        byOneAlone();
        byTwo();
        roundedDown();
        theTwoLatest();
        takesThePlace();
        takesThePlaceFromThenOn();
        asKnown();
        ofThatClock();
        farthest();
        minutes();
        noSuchClock();
        Due.end();
    }

    // "without: none"; "VOID: none."
    private static void without() {
        ClockKeeper k = Due.with("");
        Due.is("without any", k.reckoned(0, 0, 100000), -2000000000L);
        k.wait(10);
        k.read(0, 0, 5);
        Due.is("before it was told", k.reckoned(0, 0, 9), -2000000000L);
        Due.is("then", k.reckoned(0, 0, 10), 5);
        Town.answers("reckoned(2, 0, 100000)", -2000000000L, town -> town.reckoned(Town.STANDING, 0, 100000));
    }

    // "by one alone: it", for any MINUTE
    private static void byOneAlone() {
        ClockKeeper k = Due.with("");
        k.wait(50);
        k.read(0, 20, -7);
        int[] minutes = {0, 19, 20, 21, 100000};
        for (int minute : minutes) {
            Due.is("for MINUTE " + minute, k.reckoned(0, minute, 50), -7);
        }
        k.read(0, 20, 9);
        Due.is("by one that took the other's place", k.reckoned(0, 100000, 50), 9);
    }

    // "e2 and ((e2 - e1) times (that MINUTE less m2), by (m2 - m1), ...)"
    private static void byTwo() {
        ClockKeeper k = Due.with("");
        k.wait(300);
        k.read(0, 100, 500);
        k.read(0, 200, 700);
        int[] minutes = {0, 100, 150, 200, 201, 300, 100000};
        int[] errors = {300, 500, 600, 700, 702, 900, 200300};
        for (int i = 0; i < minutes.length; i++) {
            Due.is("for MINUTE " + minutes[i], k.reckoned(0, minutes[i], 300), errors[i]);
        }
    }

    // "rounded down"
    private static void roundedDown() {
        ClockKeeper k = new ClockKeeper();
        k.clock(0, 0, 0);
        k.clock(0, 0, 0);
        k.wait(20);
        k.read(0, 10, 0);
        k.read(0, 13, 1);
        k.read(1, 10, 0);
        k.read(1, 13, -1);
        int[] minutes = {9, 10, 11, 12, 13, 14, 15, 16, 17};
        int[] rising = {-1, 0, 0, 0, 1, 1, 1, 2, 2};
        int[] falling = {0, 0, -1, -1, -1, -2, -2, -2, -3};
        for (int i = 0; i < minutes.length; i++) {
            Due.is("rising, for MINUTE " + minutes[i], k.reckoned(0, minutes[i], 20), rising[i]);
            Due.is("falling, for MINUTE " + minutes[i], k.reckoned(1, minutes[i], 20), falling[i]);
        }
    }

    // "by the two latest ones (their MINUTES ...)": not those told last
    private static void theTwoLatest() {
        int[][] orders = {{0, 1, 2}, {0, 2, 1}, {1, 0, 2}, {1, 2, 0}, {2, 0, 1}, {2, 1, 0}};
        int[] minutes = {10, 20, 30};
        int[] errors = {5000, 100, 200};
        for (int[] order : orders) {
            ClockKeeper k = Due.with("");
            k.wait(50);
            for (int i : order) {
                k.read(0, minutes[i], errors[i]);
            }
            Due.is("told in the order " + order[0] + order[1] + order[2], k.reckoned(0, 40, 50), 300);
        }
    }

    // "one for the same CLOCK and MINUTE takes the place of the earlier one"
    private static void takesThePlace() {
        ClockKeeper k = Due.with("");
        k.wait(50);
        k.read(0, 10, 100);
        k.read(0, 20, 200);
        k.read(0, 20, 300);
        Due.is("of the latest", k.reckoned(0, 30, 50), 500);
        k.read(0, 10, 200);
        Due.is("of the one ahead", k.reckoned(0, 30, 50), 400);
        k.read(0, 5, 9999);
        k.read(0, 5, 8888);
        Due.is("of one that isn't of the two latest", k.reckoned(0, 30, 50), 400);
        k.read(0, 30, 700);
        k.read(0, 20, 600);
        Due.is("of one that was the latest once", k.reckoned(0, 40, 50), 800);
    }

    // "from then on": before that the earlier one is KNOWN still
    private static void takesThePlaceFromThenOn() {
        ClockKeeper k = Due.with("");
        k.wait(50);
        k.read(0, 10, 100);
        k.read(0, 20, 200);
        k.wait(1);
        k.read(0, 20, 500);
        k.wait(1);
        k.read(0, 10, 400);
        Due.is("as KNOWN at first", k.reckoned(0, 30, 50), 300);
        Due.is("as KNOWN a MINUTE later", k.reckoned(0, 30, 51), 900);
        Due.is("as KNOWN two MINUTES later", k.reckoned(0, 30, 52), 600);
    }

    // "As KNOWN in a MINUTE: of those told up to it."
    private static void asKnown() {
        ClockKeeper k = Due.with("");
        k.read(0, 0, 3);
        k.wait(100);
        k.read(0, 100, 1003);
        Due.is("below 0", k.reckoned(0, 0, -1), -2000000000L);
        Due.is("the least", k.reckoned(0, 0, Integer.MIN_VALUE), -2000000000L);
        Due.is("in MINUTE 0", k.reckoned(0, 50, 0), 3);
        Due.is("in MINUTE 99", k.reckoned(0, 50, 99), 3);
        Due.is("in MINUTE 100", k.reckoned(0, 50, 100), 503);
        Due.is("in a MINUTE to come", k.reckoned(0, 50, 100000), 503);
        Due.is("behind all MINUTES", k.reckoned(0, 50, Integer.MAX_VALUE), 503);
    }

    private static void ofThatClock() {
        ClockKeeper k = new ClockKeeper();
        k.clock(0, 0, 0);
        k.clock(0, 0, 0);
        k.wait(50);
        k.read(0, 10, 1);
        k.read(1, 20, 500);
        k.read(0, 30, 3);
        k.read(1, 30, 900);
        Due.is("of the first", k.reckoned(0, 50, 50), 5);
        Due.is("of the second", k.reckoned(1, 50, 50), 1700);
    }

    // more than 32 bits hold
    private static void farthest() {
        ClockKeeper k = Due.with("");
        k.wait(1);
        k.read(0, 0, -100000000);
        k.read(0, 1, 100000000);
        Due.is("risen", k.reckoned(0, 100000, 1), 100000000L + 200000000L * 99999L);
        k.read(0, 0, 100000000);
        k.read(0, 1, -100000000);
        Due.is("fallen", k.reckoned(0, 100000, 1), -100000000L - 200000000L * 99999L);
    }

    // "IllegalArgumentException: the first is none such.", also where nothing is KNOWN
    private static void minutes() {
        int[] wrong = {-1, 100001, Integer.MIN_VALUE, Integer.MAX_VALUE};
        for (int minute : wrong) {
            Town.refused("reckoned(0, " + minute + ", 100000)", Due.ARGUMENT, k -> k.reckoned(0, minute, 100000));
            Town.refused("reckoned(2, " + minute + ", 0)", Due.ARGUMENT, k -> k.reckoned(2, minute, 0));
        }
        Town.answers("reckoned(0, 0, ..)", 53000, k -> k.reckoned(0, 0, 100000));
        Town.answers("reckoned(0, 100000, ..)", -17000, k -> k.reckoned(0, 100000, 100000));
    }

    private static void noSuchClock() {
        Town.refused("reckoned(3, -1, 0)", Due.ELEMENT, k -> k.reckoned(Town.NOBODY, -1, 0));
        Town.needsClock("reckoned", (k, clock) -> k.reckoned(clock, 0, 100000));
    }
}
