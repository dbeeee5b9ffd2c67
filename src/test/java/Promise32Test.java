/** Promise 32, lawful: "LAW'S CLOCK at a MINUTE as KNOWN in another one; NONE." */
public final class Promise32Test {
    private Promise32Test() {
    }

    public static void main(String[] args) {
        none();
        notBehindTheMinute();
        begunTheLatest();
        toldLastOfSeveral();
        asKnown();
        anyMinutes();
        Due.end();
    }

    private static ClockKeeper three() {
        ClockKeeper k = new ClockKeeper();
        for (int i = 0; i < 3; i++) {
            k.clock(0, 0, 0);
        }
        return k;
    }

    // "; NONE."
    private static void none() {
        ClockKeeper k = three();
        Due.is("no word", k.lawful(0, 0), -1);
        k.law(2, 10);
        Due.is("none begun", k.lawful(9, 0), -1);
        Due.is("none KNOWN", k.lawful(10, -1), -1);
        Due.is("one", k.lawful(10, 0), 2);
    }

    // "not behind the MINUTE": in its first MINUTE already
    private static void notBehindTheMinute() {
        ClockKeeper k = three();
        k.law(0, 0);
        k.law(1, 50);
        k.law(2, 100000);
        int[] minutes = {0, 1, 49, 50, 51, 99999, 100000};
        int[] clocks = {0, 0, 0, 1, 1, 1, 2};
        for (int i = 0; i < minutes.length; i++) {
            Due.is("at MINUTE " + minutes[i], k.lawful(minutes[i], 0), clocks[i]);
        }
    }

    // "by the word ... which begins the latest": not the one told last
    private static void begunTheLatest() {
        ClockKeeper k = three();
        k.law(2, 80);
        k.law(1, 50);
        k.wait(5);
        k.law(0, 20);
        Due.is("at MINUTE 100", k.lawful(100, 5), 2);
        Due.is("at MINUTE 79", k.lawful(79, 5), 1);
        Due.is("at MINUTE 49", k.lawful(49, 5), 0);
    }

    // "(of several the one told last)"
    private static void toldLastOfSeveral() {
        ClockKeeper k = three();
        k.law(2, 50);
        k.law(0, 50);
        Due.is("of two", k.lawful(50, 0), 0);
        k.wait(1);
        k.law(1, 50);
        k.law(2, 49);
        Due.is("of three", k.lawful(50, 1), 1);
        Due.is("of those KNOWN", k.lawful(50, 0), 0);
        Due.is("ahead of them", k.lawful(49, 1), 2);
        ClockKeeper nought = three();
        nought.law(1, 0);
        nought.law(2, 0);
        Due.is("from MINUTE 0 on", nought.lawful(0, 0), 2);
    }

    // "told up to that"
    private static void asKnown() {
        ClockKeeper k = three();
        k.wait(10);
        k.law(1, 0);
        k.wait(10);
        k.law(2, 5);
        int[] known = {0, 9, 10, 19, 20, 100000};
        int[] clocks = {-1, -1, 1, 1, 2, 2};
        for (int i = 0; i < known.length; i++) {
            Due.is("as KNOWN in MINUTE " + known[i], k.lawful(7, known[i]), clocks[i]);
        }
    }

    // no MINUTE is refused, and no CLOCK is needed
    private static void anyMinutes() {
        ClockKeeper k = three();
        k.law(1, 0);
        Due.is("behind all", k.lawful(Integer.MAX_VALUE, Integer.MAX_VALUE), 1);
        Due.is("just ahead of all", k.lawful(-1, 0), -1);
        Due.is("far ahead of all", k.lawful(Integer.MIN_VALUE, Integer.MAX_VALUE), -1);
        Due.is("KNOWN far ahead of all", k.lawful(0, Integer.MIN_VALUE), -1);
        Due.is("without CLOCKS", new ClockKeeper().lawful(-5, -5), -1);
        Town.answers("lawful", Town.WHEEL, town -> town.lawful(60000, Town.MINUTE));
    }
}
