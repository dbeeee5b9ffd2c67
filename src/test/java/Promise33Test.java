/** Promise 33, kept: "DIAL, in thousandths of a second, cut, of a CLOCK in a whole HOUR; NONE: it isn't kept." */
public final class Promise33Test {
    private Promise33Test() {
    }

    public static void main(String[] args) {
        onceTheMinuteGoesBy();
        asTheMinuteBegins();
        fromWhenItCame();
        cut();
        theLastHour();
        standing();
        hoursThatArent();
        noSuchClock();
        Due.end();
    }

    // "(as its first MINUTE begins, once that goes by)"
    private static void onceTheMinuteGoesBy() {
        ClockKeeper k = Due.with("");
        Due.is("HOUR 0, as it begins", k.kept(0, 0), -1);
        k.wait(1);
        Due.is("HOUR 0, a MINUTE later", k.kept(0, 0), 0);
        k.wait(59);
        Due.is("HOUR 1, as it begins", k.kept(0, 1), -1);
        k.wait(1);
        Due.is("HOUR 1, a MINUTE later", k.kept(0, 1), 3600000);
        Due.is("HOUR 0 still", k.kept(0, 0), 0);
        k.wait(10000);
        for (int hour = 0; hour <= 167; hour++) {
            Due.is("HOUR " + hour, k.kept(0, hour), hour % 24 * 3600000);
        }
        Due.is("HOUR 168", k.kept(0, 168), -1);
    }

    // hands that are moved ahead of that MINUTE count, those behind it don't
    private static void asTheMinuteBegins() {
        ClockKeeper k = Due.with("");
        k.hands(0, 7, false);
        k.wait(1);
        k.hands(0, 100, false);
        k.wait(59);
        Due.is("HOUR 0", k.kept(0, 0), 7000);
        k.hands(0, -17, false);
        k.wait(1);
        k.hands(0, 1000, false);
        Due.is("HOUR 1", k.kept(0, 1), 3690000);
        k.wait(60);
        Due.is("HOUR 1 still", k.kept(0, 1), 3690000);
        Due.is("HOUR 2", k.kept(0, 2), 8290000);
    }

    // "of each CLOCK from when it came"
    private static void fromWhenItCame() {
        ClockKeeper k = new ClockKeeper();
        k.wait(60);
        k.clock(0, 0, 0);
        k.wait(1);
        k.clock(0, 0, 0);
        k.wait(60);
        Due.is("not ahead of it", k.kept(0, 0), -1);
        Due.is("as it came", k.kept(0, 1), 0);
        Due.is("a MINUTE too late", k.kept(1, 1), -1);
        Due.is("its first one", k.kept(1, 2), 59 * 60000);
        Due.is("of the other one", k.kept(0, 2), 3600000);
    }

    // "in thousandths of a second, cut"
    private static void cut() {
        ClockKeeper k = new ClockKeeper();
        Due.clock(k, 0, 0, "base -1;");
        Due.clock(k, 0, 0, "base 277;");
        k.wait(1500);
        Due.is("3,600 millionths less", k.kept(0, 1), 3599996);
        Due.is("997,200 millionths more", k.kept(1, 1), 3600997);
        Due.is("ahead of midnight", k.kept(0, 24), 86399913);
        Due.is("behind midnight", k.kept(1, 24), 23932);
    }

    // HOUR 1,666 begins with MINUTE 99,960
    private static void theLastHour() {
        ClockKeeper k = Due.with("run 1;base 10;");
        Due.pass(k, 99960);
        Due.is("the last HOUR, as it begins", k.kept(0, 1666), -1);
        k.wait(1);
        Due.is("a MINUTE later", k.kept(0, 1666), 864);
        k.wait(39);
        Due.is("the last of all", k.kept(0, 1666), 864);
        Due.is("none behind it", k.kept(0, 1667), -1);
    }

    // one that STANDS shows a DIAL, too
    private static void standing() {
        ClockKeeper k = Due.with("run 1;");
        k.wait(1380);
        k.hands(0, 30, false);
        k.wait(300);
        Due.is("its last HOUR", k.kept(0, 23), 23 * 3600000 + 30000);
        Due.is("as it STANDS", k.kept(0, 24), 30000);
        Due.is("still", k.kept(0, 27), 30000);
    }

    // "NONE: it isn't kept.": whatever the HOUR is
    private static void hoursThatArent() {
        int[] hours = {-1, Town.MINUTE / 60, 1667, 100000, Integer.MIN_VALUE, Integer.MAX_VALUE};
        for (int hour : hours) {
            Town.answers("kept(0, " + hour + ")", -1, k -> k.kept(0, hour));
        }
        Town.answers("the latest one", 0, k -> k.kept(Town.STANDING, Town.MINUTE / 60 - 1));
    }

    private static void noSuchClock() {
        Town.refused("kept(3, -1)", Due.ELEMENT, k -> k.kept(Town.NOBODY, -1));
        Town.needsClock("kept", (k, clock) -> k.kept(clock, 0));
    }
}
