/** Promise 23, keeper: "The KEEPER goes to a place, at once: how FAR it was." */
public final class Promise23Test {
    private Promise23Test() {
    }

    public static void main(String[] args) {
        howFar();
        atOnce();
        places();
        Due.end();
    }

    // "FAR of two places: along x and along y together"; "(0, 0 at first)"
    private static void howFar() {
        ClockKeeper k = new ClockKeeper();
        Due.is("where it is", k.keeper(0, 0), 0);
        Due.is("along x", k.keeper(99, 0), 99);
        Due.is("along y", k.keeper(99, 99), 99);
        Due.is("across", k.keeper(0, 0), 198);
        Due.is("up and down", k.keeper(3, 50), 53);
        Due.is("back and up", k.keeper(1, 60), 12);
        Due.is("there still", k.keeper(1, 60), 0);
    }

    // "at once": no MINUTE goes by
    private static void atOnce() {
        ClockKeeper k = Due.with("");
        k.keeper(99, 99);
        Due.is("MINUTE", k.count(0), 0);
        Due.is("LEFT", k.told(0, 0), 8 * 1440);
        Due.is("from there", k.round(1, 1), 198 + 1);
    }

    // "IllegalArgumentException: the place.": the KEEPER stays
    private static void places() {
        int[] wrong = {-1, 100, Integer.MIN_VALUE, Integer.MAX_VALUE};
        for (int w : wrong) {
            Town.refused("keeper(" + w + ", 0)", Due.ARGUMENT, k -> k.keeper(w, 0));
            Town.refused("keeper(0, " + w + ")", Due.ARGUMENT, k -> k.keeper(0, w));
        }
        Town.answers("where it is", 0, k -> k.keeper(7, 9));
    }
}
