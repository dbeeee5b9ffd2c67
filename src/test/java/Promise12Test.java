/** Promise 12, wind: "WINDING of a weight (0 that of going, 1 of striking), at once: what was LEFT, or of RINGS." */
public final class Promise12Test {
    private Promise12Test() {
    }

    public static void main(String[] args) {
        going();
        striking();
        whatItLeavesAlone();
        anotherWhich();
        Due.end();
    }

    // "1,440 run when wound"
    private static void going() {
        ClockKeeper k = Due.with("run 2;");
        Due.is("full", k.wind(0, 0), 2880);
        k.wait(2879);
        Due.is("one was LEFT", k.wind(0, 0), 1);
        Due.is("full again", k.told(0, 0), 2880);
        k.wait(2880);
        Due.is("none was LEFT", k.wind(0, 0), 0);
        Due.is("full again", k.told(0, 0), 2880);
        k.wait(1);
        Due.is("it goes", k.told(0, 0), 2879);
        Due.is("MINUTE: at once", k.count(0), 2879 + 2880 + 1);
    }

    // "strokes when wound"
    private static void striking() {
        ClockKeeper k = Due.with("strokes 5;strike rack 4;");
        Due.is("full", k.wind(0, 1), 5);
        k.wait(60);
        Due.is("one was left", k.wind(0, 1), 1);
        Due.is("full again", k.told(0, 1), 5);
        k.wait(120);
        Due.is("none was left", k.wind(0, 1), 0);
        Due.is("full again", k.told(0, 1), 5);
    }

    // each weight for itself; the DIAL, PLACE and when it was OILED stay
    private static void whatItLeavesAlone() {
        ClockKeeper k = Due.with("run 3;strokes 50;wear 1;strike wheel 1,1,1,1,1;");
        k.wait(1500);
        int left = k.told(0, 0);
        int rings = k.told(0, 1);
        Due.is("of striking", k.wind(0, 1), rings);
        Due.is("LEFT stays", k.told(0, 0), left);
        k.wait(60);
        rings = k.told(0, 1);
        Due.is("of going", k.wind(0, 0), left - 60);
        Due.is("RINGS stay", k.told(0, 1), rings);
        // 120 MINUTES at RATE -1: 7,200 millionths short of hour 2, so that 25 hours have struck
        Due.is("DIAL stays", k.dial(0), 120 * 60000 - 8);
        Due.is("PLACE stays", k.told(0, 2), 25 % 5);
        Due.is("it isn't OILED", k.rate(0), -1);
    }

    // "IllegalArgumentException: another which."; no such CLOCK ahead of it
    private static void anotherWhich() {
        int[] wrong = {-1, 2, Integer.MIN_VALUE, Integer.MAX_VALUE};
        for (int which : wrong) {
            Town.refused("wind(0, " + which + ")", Due.ARGUMENT, k -> k.wind(0, which));
        }
        Town.refused("wind(3, 2)", Due.ELEMENT, k -> k.wind(Town.NOBODY, 2));
        Town.needsClock("wind", (k, clock) -> k.wind(clock, 0));
    }
}
