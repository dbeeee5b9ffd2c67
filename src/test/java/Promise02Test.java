/** Promise 2, warmth: the WARMTH of HOURS. */
public final class Promise02Test {
    private Promise02Test() {
    }

    public static void main(String[] args) {
        coldestAndHottest();
        noneSuch();
        oneBehindAnother();
        toldForWhatIsPast();
        mostHours();
        Due.end();
    }

    // "-30 to 50 degrees"
    private static void coldestAndHottest() {
        ClockKeeper k = Due.with("warm 2;");
        Due.is("the coldest", k.warmth(-30), 1);
        Due.is("RATE in the cold", k.rate(0), -90);
        k.wait(60);
        Due.is("the hottest", k.warmth(50), 2);
        Due.is("RATE in the heat", k.rate(0), 70);
        Due.is("told", k.count(2), 2);
    }

    // "IllegalArgumentException: it is none such."
    private static void noneSuch() {
        int[] degrees = {-31, 51, Integer.MIN_VALUE, Integer.MAX_VALUE};
        for (int d : degrees) {
            Town.refused("warmth(" + d + ")", Due.ARGUMENT, k -> k.warmth(d));
        }
    }

    // "of HOURS 0, 1, .., as far as it is told, one behind another"; "15 for others"; "HOUR: MINUTE by 60, cut"
    private static void oneBehindAnother() {
        ClockKeeper k = Due.with("warm 1;");
        Due.is("the 1st", k.warmth(10), 1);
        Due.is("the 2nd", k.warmth(12), 2);
        Due.is("the 3rd", k.warmth(19), 3);
        int[] rates = {-5, -3, 4, 0};
        for (int hour = 0; hour < rates.length; hour++) {
            Due.is("RATE in the first MINUTE of HOUR " + hour, k.rate(0), rates[hour]);
            k.wait(59);
            Due.is("RATE in the last MINUTE of HOUR " + hour, k.rate(0), rates[hour]);
            k.wait(1);
        }
    }

    // "The next HOUR's WARMTH": that behind the last one told, not the one that is now
    private static void toldForWhatIsPast() {
        ClockKeeper k = Due.with("warm 1;");
        k.wait(60);
        k.warmth(50);
        Due.is("HOUR 0 was told", k.rate(0), 0);
        k.warmth(16);
        Due.is("now HOUR 1 is", k.rate(0), 1);
    }

    // "-1, doing nothing: there are 1,700." More calls than are promised (512), but kept to all the same.
    private static void mostHours() {
        ClockKeeper k = Due.with("warm 1;run 31;");
        for (int i = 1; i <= 1700; i++) {
            Due.is("warmth " + i, k.warmth(i == 1667 ? 17 : 16), i);
        }
        Due.is("the 1,701st", k.warmth(20), -1);
        Due.is("told", k.count(2), 1700);
        Due.refused("none such, when all are told", Due.ARGUMENT, () -> k.warmth(51));
        Due.is("RATE in HOUR 0", k.rate(0), 1);
        Due.pass(k, 99959);
        Due.is("RATE in HOUR 1,665", k.rate(0), 1);
        k.wait(41);
        Due.is("RATE in the last HOUR", k.rate(0), 2);
    }
}
