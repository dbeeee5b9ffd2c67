/** Promise 7, wait: how far MINUTES go, and in what order things come as they go by. */
public final class Promise07Test {
    private Promise07Test() {
    }

    public static void main(String[] args) {
        leastAndMost();
        notAMinuteCount();
        lastMinute();
        bothReasons();
        oneByOne();
        clocksInOrder();
        manyOrFewAtOnce();
        Due.end();
    }

    // "they are not 0 to 10,000": 0 and 10,000 are
    private static void leastAndMost() {
        ClockKeeper k = Due.with("");
        Due.is("wait(0)", k.wait(0), 0);
        Due.is("DIAL", k.dial(0), 0);
        Due.is("wait(1)", k.wait(1), 1);
        Due.is("DIAL", k.dial(0), 60000);
        Due.is("wait(10000)", k.wait(10000), 10001);
        Due.is("MINUTE", k.count(0), 10001);
        Due.is("LEFT", k.told(0, 0), 8 * 1440 - 10001);
    }

    private static void notAMinuteCount() {
        int[] wrong = {-1, 10001, 100001, Integer.MIN_VALUE, Integer.MAX_VALUE};
        for (int minutes : wrong) {
            Town.refused("wait(" + minutes + ")", Due.ARGUMENT, k -> k.wait(minutes));
        }
    }

    // "100,000 at most"; "IllegalStateException: it would be above 100,000"
    private static void lastMinute() {
        ClockKeeper k = Due.with("run 31;");
        for (int i = 1; i <= 9; i++) {
            Due.is("wait(10000)", k.wait(10000), 10000 * i);
        }
        Due.is("wait(9999)", k.wait(9999), 99999);
        Due.refused("2 more", Due.STATE, () -> k.wait(2));
        Due.refused("10,000 more", Due.STATE, () -> k.wait(10000));
        Due.is("none went by", k.count(0), 99999);
        Due.is("the last one", k.wait(1), 100000);
        Due.is("no more", k.wait(0), 100000);
        Due.refused("1 more", Due.STATE, () -> k.wait(1));
        Due.is("MINUTE", k.count(0), 100000);
        Due.is("the whole way", new ClockKeeper().wait(10000), 10000);
        Town.answers("nothing more", Town.MINUTE, town -> town.wait(0));
        ClockKeeper whole = new ClockKeeper();
        Due.pass(whole, 90000);
        Due.is("10,000 to the last", whole.wait(10000), 100000);
    }

    // two reasons at once: what is no number of MINUTES, first
    private static void bothReasons() {
        ClockKeeper k = new ClockKeeper();
        Due.pass(k, 100000);
        Due.refused("10,001 of none", Due.ARGUMENT, () -> k.wait(10001));
        Due.refused("-1 of none", Due.ARGUMENT, () -> k.wait(-1));
        Due.refused("far too many", Due.ARGUMENT, () -> k.wait(Integer.MAX_VALUE));
        Due.is("MINUTE", k.count(0), 100000);
    }

    // "MINUTES go by one after the other": each by its own RATE
    private static void oneByOne() {
        ClockKeeper k = Due.with("run 1;pull 100;");
        k.wait(144);
        Due.is("a tenth of the weight's way at RATE 0", k.dial(0), 144 * 60000);
        k.wait(1);
        Due.is("then at -100", k.dial(0), 145 * 60000 - 6);
        k.wait(143);
        Due.is("for another tenth", k.dial(0), 288 * 60000 - 144 * 6);
        k.wait(1);
        Due.is("then at -200", k.dial(0), 289 * 60000 - 144 * 6 - 12);
    }

    // "in each the CLOCKS in order": whatever their SECONDS are
    private static void clocksInOrder() {
        ClockKeeper k = new ClockKeeper();
        Due.clock(k, 0, 0, "");
        Due.clock(k, 0, 0, "");
        Due.clock(k, 0, 0, "");
        k.hands(0, -20, false);
        k.hands(1, -10, false);
        k.hands(2, -30, false);
        k.wait(61);
        int[] second = {30, 10, 20};
        for (int i = 0; i < 3; i++) {
            Due.is("CLOCK of the one " + i, k.sounding(i, 0), 2 - i);
            Due.is("SECOND of the one " + i, k.sounding(i, 1), 3600 + second[i]);
        }
    }

    // so many at once or one by one is all the same
    private static void manyOrFewAtOnce() {
        ClockKeeper once = new ClockKeeper();
        ClockKeeper often = new ClockKeeper();
        String text = "base 333;wear 9;pull 9;quarters 1 2 3 4;calendar months;strokes 300;silent 22-6 held;";
        Due.clock(once, 0, 0, text);
        Due.clock(often, 0, 0, text);
        once.wait(9000);
        for (int i = 0; i < 300; i++) {
            often.wait(30);
        }
        Due.same("state", Town.state(often), Town.state(once));
    }
}
