/** Promises 23 to 25: the KEEPER, ROUND and PLAN. */
public final class KeeperTest {
    private KeeperTest() {
    }

    public static void main(String[] args) {
        keeper();
        roundOfOne();
        roundOrders();
        roundStops();
        roundRefuses();
        planOfOne();
        planOfMany();
        planRefuses();
        Due.end();
    }

    private static void keeper() {
        ClockKeeper k = new ClockKeeper();
        Due.is("from 0, 0", k.keeper(99, 98), 197);
        Due.is("back a bit", k.keeper(90, 99), 10);
        Due.is("where he is", k.keeper(90, 99), 0);
        Due.refused("x 100", Due.ARGUMENT, () -> k.keeper(100, 0));
        Due.refused("x -1", Due.ARGUMENT, () -> k.keeper(-1, 0));
        Due.refused("y 100", Due.ARGUMENT, () -> k.keeper(0, 100));
        Due.refused("y -1", Due.ARGUMENT, () -> k.keeper(0, -1));
        Due.is("he stayed", k.keeper(0, 0), 189);
    }

    private static void roundOfOne() {
        ClockKeeper k = Due.with("run 2;");
        Due.is("full and near: nothing to do", k.round(1, 1), 0);
        Due.is("none stops", k.round(1, 0), 0);
        k.wait(1);
        Due.is("a DAY begun", k.round(1, 1), 1);
        k.wait(1439);
        Due.is("a whole DAY", k.round(1, 1), 1);
        k.keeper(1, 0);
        Due.is("more than a DAY when he comes", k.round(1, 1), 1 + 2);
        k.keeper(0, 0);
        k.wait(1435);
        k.keeper(2, 2);
        Due.is("a minute LEFT when he comes", k.round(1, 0), 0);
        k.keeper(2, 3);
        Due.is("none LEFT when he comes", k.round(1, 0), 1);
        Due.is("done then", k.round(1, 1), 5 + 2);
        Due.is("the clock", k.round(1, 2), 0);
        Due.is("nothing was wound", k.told(0, 0), 5);
        k.wait(100);
        Due.is("one that STANDS", k.round(1, 0), 1);
        Due.is("no more than all", k.round(1, 1), 5 + 2);
    }

    private static void roundOrders() {
        ClockKeeper k = new ClockKeeper();
        Due.clock(k, 10, 0, "run 31;");
        Due.clock(k, 5, 0, "run 31;");
        Due.clock(k, 20, 0, "run 31;");
        k.wait(10);
        Due.is("done soonest", k.round(7, 1), 23);
        Due.is("first", k.round(7, 2), 1);
        Due.is("second", k.round(7, 3), 0);
        Due.is("third", k.round(7, 4), 2);
        Due.is("two of them", k.round(5, 1), 22);
        Due.is("by numbers of clocks", k.round(5, 3), 2);
        k.keeper(20, 0);
        Due.is("from where he is", k.round(7, 2), 2);
        ClockKeeper square = new ClockKeeper();
        Due.clock(square, 1, 1, "");
        Due.clock(square, 1, 1, "");
        Due.clock(square, 1, 1, "");
        Due.is("alike: the first by numbers", square.round(7, 2), 0);
        Due.is("alike: the second", square.round(7, 3), 1);
        Due.is("alike: the third", square.round(7, 4), 2);
        ClockKeeper both = new ClockKeeper();
        Due.clock(both, 5, 0, "run 31;");
        Due.clock(both, 0, 5, "run 31;");
        Due.is("either way round", both.round(3, 2), 0);
    }

    private static void roundStops() {
        ClockKeeper k = new ClockKeeper();
        Due.clock(k, 10, 0, "run 31;");
        Due.clock(k, 30, 0, "run 1;");
        k.wait(1440 - 32);
        Due.is("there is time for the near one first", k.round(3, 0), 0);
        Due.is("so it is the second", k.round(3, 3), 1);
        Due.is("in time: 10 and 1 and 20", k.round(3, 1), 10 + 1 + 20 + 1);
        k.wait(1);
        Due.is("a minute later still", k.round(3, 0), 0);
        Due.is("the far one must be first", k.round(3, 2), 1);
        Due.is("that takes longer, and the near one a DAY more", k.round(3, 1), 30 + 1 + 20 + 2);
        k.wait(1);
        Due.is("now it stops anyhow", k.round(3, 0), 1);
        Due.is("so the near one is first", k.round(3, 2), 0);
        Due.is("and all is done sooner", k.round(3, 1), 10 + 1 + 20 + 1);
    }

    private static void roundRefuses() {
        ClockKeeper k = new ClockKeeper();
        Due.refused("no clocks at all", Due.ARGUMENT, () -> k.round(1, 0));
        for (int i = 0; i < 7; i++) {
            Due.clock(k, i, 0, "");
        }
        Due.refused("no bits", Due.ARGUMENT, () -> k.round(0, 0));
        Due.refused("a bit of none", Due.ARGUMENT, () -> k.round(128, 0));
        Due.refused("a bit of none beside others", Due.ARGUMENT, () -> k.round(131, 0));
        Due.refused("the highest bit", Due.ARGUMENT, () -> k.round(Integer.MIN_VALUE, 0));
        Due.refused("seven", Due.ARGUMENT, () -> k.round(127, 0));
        Due.is("six", k.round(126, 7), 6);
        Due.refused("what 8 of six", Due.ARGUMENT, () -> k.round(126, 8));
        Due.refused("what -1", Due.ARGUMENT, () -> k.round(126, -1));
    }

    private static void plan(ClockKeeper k, int clocks, int many, int... due) {
        int days = due.length - 1;
        for (int what = 0; what < due.length; what++) {
            Due.is("plan(" + clocks + ", " + days + ", " + many + ", " + what + ")", k.plan(clocks, days, many, what), due[what]);
        }
    }

    private static void planOfOne() {
        ClockKeeper k = Due.with("run 3;");
        plan(k, 1, 1, 0, 0);
        plan(k, 1, 1, 0, 0, 0);
        plan(k, 1, 1, 1, 0, 0, 1);
        plan(k, 1, 1, 1, 0, 0, 1, 0);
        plan(k, 1, 1, 2, 0, 0, 1, 0, 1);
        k.wait(1439);
        Due.is("a minute more than two DAYS", k.told(0, 0), 2881);
        plan(k, 1, 1, 0, 0, 0);
        k.wait(1);
        plan(k, 1, 1, 0, 0);
        plan(k, 1, 1, 1, 0, 1);
        plan(k, 1, 1, 1, 0, 1);
        k.wait(1440);
        Due.is("a DAY is LEFT", k.told(0, 0), 1440);
        plan(k, 1, 1, 1, 1);
        plan(k, 1, 1, 1, 1, 0);
        plan(k, 1, 1, 2, 1, 0, 1);
        k.wait(1439);
        plan(k, 1, 1, 1, 1);
        k.wait(1);
        plan(k, 1, 1, -1, -1);
        ClockKeeper one = Due.with("run 1;");
        plan(one, 1, 2, -1, -1);
        plan(one, 1, 2, -1, -1, -1);
    }

    private static void planOfMany() {
        ClockKeeper k = new ClockKeeper();
        Due.clock(k, 0, 0, "run 31;");
        Due.clock(k, 0, 0, "run 2;");
        Due.clock(k, 0, 0, "run 2;");
        Due.clock(k, 0, 0, "run 3;");
        Due.clock(k, 0, 0, "run 3;");
        Due.clock(k, 0, 0, "run 3;");
        plan(k, 6, 2, 0, 0);
        plan(k, 6, 2, 2, 0, 6);
        plan(k, 6, 1, -1, -1, -1);
        plan(k, 6, 2, 4, 0, 6, 6);
        plan(k, 10, 1, 1, 0, 2);
        plan(k, 10, 1, -1, -1, -1, -1);
        plan(k, 10, 2, 3, 0, 2, 10);
        plan(k, 14, 2, 2, 0, 6);
        plan(k, 14, 2, -1, -1, -1, -1);
        plan(k, 24, 2, 2, 0, 0, 24);
        plan(k, 24, 1, 2, 0, 8, 16);
        plan(k, 24, 1, 3, 0, 8, 16, 8);
        plan(k, 24, 1, 4, 0, 8, 16, 8, 16);
        plan(k, 56, 1, -1, -1, -1, -1);
        plan(k, 57, 2, 3, 0, 8, 48);
        plan(k, 1, 1, 0, 0, 0, 0, 0, 0, 0, 0, 0, 0, 0);
        k.wait(1440);
        plan(k, 24, 1, 2, 8, 16);
        plan(k, 24, 2, 2, 0, 24);
    }

    private static void planRefuses() {
        ClockKeeper k = new ClockKeeper();
        Due.refused("no clocks at all", Due.ARGUMENT, () -> k.plan(1, 1, 1, 0));
        for (int i = 0; i < 5; i++) {
            Due.clock(k, i, 0, "");
        }
        Due.refused("no bits", Due.ARGUMENT, () -> k.plan(0, 1, 1, 0));
        Due.refused("a bit of none", Due.ARGUMENT, () -> k.plan(32, 1, 1, 0));
        Due.refused("the highest bit", Due.ARGUMENT, () -> k.plan(Integer.MIN_VALUE, 1, 1, 0));
        Due.refused("five", Due.ARGUMENT, () -> k.plan(31, 1, 1, 0));
        Due.is("four", k.plan(30, 10, 1, 10), 0);
        Due.refused("no DAYS", Due.ARGUMENT, () -> k.plan(1, 0, 1, 0));
        Due.refused("11 DAYS", Due.ARGUMENT, () -> k.plan(1, 11, 1, 0));
        Due.refused("none at one time", Due.ARGUMENT, () -> k.plan(1, 1, 0, 0));
        Due.refused("three at one time", Due.ARGUMENT, () -> k.plan(1, 1, 3, 0));
        Due.refused("what -1", Due.ARGUMENT, () -> k.plan(1, 1, 1, -1));
        Due.refused("what 4 of 3 DAYS", Due.ARGUMENT, () -> k.plan(1, 3, 1, 4));
    }
}
