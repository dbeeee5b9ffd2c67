import java.util.NoSuchElementException;
import java.util.Random;

/** Long chance runs (always the same ones) on a ClockKeeper and on the Model: each answer must be alike. */
public final class ModelTest {
    private static final int RUNS = 400;
    private static final int CALLS = 512;

    private interface Call {
        long go();
    }

    private final Random chance;
    private final ClockKeeper keeper = new ClockKeeper();
    private final Model model = new Model();
    private final StringBuilder told = new StringBuilder();
    private boolean wrong = false;

    private ModelTest(int seed) {
        chance = new Random(seed);
    }

    public static void main(String[] args) {
        int runs = args.length > 0 ? Integer.parseInt(args[0]) : RUNS;
        int first = args.length > 1 ? Integer.parseInt(args[1]) : 0;
        int bad = 0;
        for (int seed = first; seed < first + runs && bad < 5; seed++) {
            ModelTest run = new ModelTest(seed);
            run.all();
            if (run.wrong) {
                bad++;
                System.out.println("seed " + seed + ":\n" + run.told);
            }
        }
        if (bad > 0) {
            System.exit(1);
        }
    }

    private void all() {
        if (chance.nextInt(4) == 0) {
            planning();
            return;
        }
        boolean early = chance.nextInt(3) > 0;
        for (int i = 0; early && i < 1 + chance.nextInt(8) && !wrong; i++) {
            newText(true);
        }
        for (int i = 0; i < CALLS / 2 && !wrong; i++) {
            step();
        }
    }

    /** Clocks that are soon run down, so that few windings at one time are hard to share out. */
    private void planning() {
        int clocks = n(2, 7);
        for (int i = 0; i < clocks; i++) {
            int x = n(0, 99);
            int y = n(0, 99);
            String text = "run " + n(2, chance.nextBoolean() ? 5 : 12) + ";";
            feed(text);
            same("clock(" + x + ", " + y + ", " + text.length() + ") " + text, () -> keeper.clock(x, y, text.length()),
                () -> model.clock(x, y, text.length()));
        }
        for (int i = 0; i < 12 && !wrong; i++) {
            int m = chance.nextBoolean() ? n(0, 1500) : 1440 * n(0, 1);
            same("wait(" + m + ")", () -> keeper.wait(m), () -> model.wait(m));
            for (int j = 0; j < clocks; j++) {
                int c = j;
                if (model.clocks.get(c).left <= 1440 || chance.nextInt(3) == 0) {
                    same("wind(" + c + ", 0)", () -> keeper.wind(c, 0), () -> model.wind(c, 0));
                }
            }
            planOrRound();
        }
    }

    private static String outcome(Call call) {
        try {
            return Long.toString(call.go());
        } catch (NoSuchElementException | IllegalStateException | IllegalArgumentException e) {
            return e.getClass().getName();
        } catch (RuntimeException e) {
            return "MACHINE " + e;
        }
    }

    private void same(String name, Call real, Call due) {
        String got = outcome(real);
        String want = outcome(due);
        told.append(name).append(" => ").append(got).append('\n');
        if (!got.equals(want)) {
            wrong = true;
            told.append("   due is ").append(want).append('\n');
        }
    }

    private int n(int least, int most) {
        return least + chance.nextInt(most - least + 1);
    }

    /** Mostly within, at times a little or far outside. */
    private int near(int least, int most) {
        int kind = chance.nextInt(24);
        if (kind == 0) {
            return n(least - 2, most + 2);
        }
        if (kind == 1) {
            return chance.nextInt(8) == 0 ? chance.nextInt() : chance.nextBoolean() ? least : most;
        }
        return n(least, most);
    }

    private int clock() {
        return near(0, Math.max(0, model.clocks.size() - 1));
    }

    private void newText(boolean valid) {
        String text = text();
        for (int i = 0; !valid && i < chance.nextInt(3); i++) {
            text = spoilt(text);
        }
        feed(text);
        int x = near(0, chance.nextBoolean() ? 99 : 20);
        int y = near(0, chance.nextBoolean() ? 99 : 20);
        int length = chance.nextInt(30) == 0 ? near(0, 400) : Math.min(text.length(), 400);
        boolean refit = model.clocks.size() == 8 ? chance.nextInt(4) > 0 : !valid && chance.nextBoolean();
        if (refit) {
            int clock = clock();
            same("refit(" + clock + ", " + length + ") " + text, () -> keeper.refit(clock, length), () -> model.refit(clock, length));
        } else {
            same("clock(" + x + ", " + y + ", " + length + ") " + text, () -> keeper.clock(x, y, length),
                () -> model.clock(x, y, length));
        }
        same("fault()", keeper::fault, () -> model.faultPlace);
        int latest = model.clocks.size() - 1;
        same("told(" + latest + ", 8)", () -> keeper.told(latest, 8), () -> model.told(latest, 8));
    }

    private void feed(String text) {
        for (int i = 0; i < text.length(); i += 20) {
            int[] f = new int[5];
            for (int j = 0; j < 20; j++) {
                f[j / 4] = f[j / 4] << 8 | (i + j < text.length() ? text.charAt(i + j) & 255 : 0);
            }
            same("feed", () -> keeper.feed(f[0], f[1], f[2], f[3], f[4]), () -> model.feed(f));
        }
    }

    private String spoilt(String text) {
        int at = chance.nextInt(text.length() + 1);
        switch (chance.nextInt(5)) {
            case 0:
                return text.substring(0, at);
            case 1:
                return text.substring(0, at) + pick(" ", "(", ")", ";", ",", "-", "9", "0", "run", "if", "A", "\u00e9", "+", "x", "(((((((((")
                    + text.substring(at);
            case 2:
                return at == text.length() ? text : text.substring(0, at) + text.substring(at + 1);
            case 3:
                return text + text;
            default:
                return text + "run 8;".repeat(n(10, 17)) + text;
        }
    }

    private String pick(String... all) {
        return all[chance.nextInt(all.length)];
    }

    private String text() {
        StringBuilder text = new StringBuilder();
        int parts = chance.nextInt(9);
        for (int i = 0; i < parts; i++) {
            text.append(blanks()).append(part()).append(blanks()).append(';');
        }
        return text.append(blanks()).toString();
    }

    private String blanks() {
        return chance.nextInt(12) == 0 ? " ".repeat(n(1, 2)) : "";
    }

    private int number(int least, int most) {
        return chance.nextInt(60) == 0 ? most + n(1, 2) : chance.nextInt(10) == 0 ? most : n(least, most);
    }

    private String part() {
        switch (chance.nextInt(14)) {
            case 0:
                return "run " + number(1, chance.nextInt(3) > 0 ? 3 : 31);
            case 1:
                return "base " + pick("", "-", "- ") + number(0, 500);
            case 2:
                return "warm " + pick("", "-") + number(0, 500);
            case 3:
                return "wear " + number(0, 500);
            case 4:
                return "pull" + pick("", " ") + number(0, 500);
            case 5:
                return "penny " + number(0, 50);
            case 6:
                return "strokes " + number(1, chance.nextBoolean() ? 2000 : 40);
            case 7:
                return "quarters " + number(0, 16) + " " + number(0, 4) + " " + number(0, 4) + " " + number(0, 16);
            case 8:
                return "silent " + number(0, 23) + "-" + number(0, 23) + pick("held", " stopped");
            case 9:
                return "calendar " + pick("plain", "months", "leap");
            case 10:
                return "reach " + number(0, 200);
            case 11:
                return "strike rack " + sum(0);
            default:
                return wheel();
        }
    }

    private String wheel() {
        int from = n(0, 11);
        int size = chance.nextInt(4) > 0 ? 12 * n(1, 2) : n(1, 26);
        StringBuilder text = new StringBuilder("strike wheel ");
        for (int i = 0; i < size; i++) {
            text.append(i == 0 ? "" : ",").append(chance.nextInt(80) == 0 ? number(0, 12) : (from + i) % 12 + 1);
        }
        return text.toString();
    }

    private String sum(int depth) {
        StringBuilder text = new StringBuilder(product(depth));
        while (chance.nextInt(3) == 0) {
            text.append(blanks()).append(pick("+", "-")).append(blanks()).append(product(depth));
        }
        return text.toString();
    }

    private String product(int depth) {
        StringBuilder text = new StringBuilder(unit(depth));
        while (chance.nextInt(3) == 0) {
            text.append(blanks()).append(pick("*", "/", "%")).append(unit(depth));
        }
        return text.toString();
    }

    private String unit(int depth) {
        if (depth < 9 && chance.nextInt(4) == 0) {
            return "(" + sum(depth + 1) + ")";
        }
        if (depth < 9 && chance.nextInt(6) == 0) {
            String test = chance.nextBoolean() ? "hour" + pick("<", ">", "=") + n(0, 23) : sum(depth + 1) + pick("<", ">", "=") + n(0, 9);
            return "if(" + test + "," + sum(depth + 1) + blanks() + "," + unit(depth + 1) + ")";
        }
        return pick("hour", "date", "month", "hour", Integer.toString(number(0, 99)), Integer.toString(n(0, 12)));
    }

    private void step() {
        int kind = chance.nextInt(100);
        if (kind < 3) {
            newText(false);
        } else if (kind < 20) {
            int m = chance.nextInt(5) > 0 ? near(0, 700) : near(0, chance.nextInt(4) > 0 ? 2000 : 10000);
            same("wait(" + m + ")", () -> keeper.wait(m), () -> model.wait(m));
        } else if (kind < 45) {
            look();
        } else if (kind < 65) {
            act();
        } else if (kind < 80) {
            listen();
        } else {
            reckon();
        }
    }

    private void look() {
        int c = clock();
        int what = near(0, 8);
        int minutes = near(1, chance.nextInt(3) == 0 ? 3000 : 200);
        int k = near(0, 20);
        switch (chance.nextInt(7)) {
            case 0:
                same("dial(" + c + ")", () -> keeper.dial(c), () -> model.dial(c));
                break;
            case 1:
                same("error(" + c + ")", () -> keeper.error(c), () -> model.error(c));
                break;
            case 2:
                same("rate(" + c + ")", () -> keeper.rate(c), () -> model.rate(c));
                break;
            case 3:
                same("count(" + what + ")", () -> keeper.count(what), () -> model.count(what));
                break;
            case 4:
                same("foretold(" + c + ", " + minutes + ", " + what + ")", () -> keeper.foretold(c, minutes, what),
                    () -> model.foretold(c, minutes, what));
                break;
            case 5:
                int hour = near(0, Math.max(1, model.minute / 60));
                same("kept(" + c + ", " + hour + ")", () -> keeper.kept(c, hour), () -> model.kept(c, hour));
                break;
            default:
                same("told(" + c + ", " + what + ")", () -> keeper.told(c, what), () -> model.told(c, what));
        }
    }

    private void act() {
        int c = clock();
        boolean yes = chance.nextBoolean();
        int seconds = chance.nextInt(4) == 0 ? 900 * near(-48, 48) : near(-43200, 43200);
        int p = near(-20, 20);
        int degrees = near(-30, 50);
        int which = near(0, 1);
        switch (chance.nextInt(8)) {
            case 0:
                same("warmth(" + degrees + ")", () -> keeper.warmth(degrees), () -> model.warmth(degrees));
                break;
            case 1:
                same("leap(" + yes + ")", () -> keeper.leap(yes) ? 1 : 0, () -> model.leap(yes));
                break;
            case 2:
                same("wind(" + c + ", " + which + ")", () -> keeper.wind(c, which), () -> model.wind(c, which));
                break;
            case 3:
                same("oil(" + c + ")", () -> keeper.oil(c), () -> model.oil(c));
                break;
            case 4:
                same("hands(" + c + ", " + seconds + ", " + yes + ")", () -> keeper.hands(c, seconds, yes),
                    () -> model.hands(c, seconds, yes));
                break;
            case 5:
                same("date(" + c + ")", () -> keeper.date(c), () -> model.date(c));
                break;
            case 6:
                same("pennies(" + c + ", " + p + ")", () -> keeper.pennies(c, p), () -> model.pennies(c, p));
                break;
            default:
                same("trip(" + c + ", " + yes + ")", () -> keeper.trip(c, yes), () -> model.trip(c, yes));
        }
    }

    private void listen() {
        int c = clock();
        int x = near(0, chance.nextBoolean() ? 99 : 20);
        int y = near(0, chance.nextBoolean() ? 99 : 20);
        int k = near(0, chance.nextBoolean() ? 199 : 5);
        int hour = near(1, 12);
        int what = near(0, 2);
        int part = near(0, 3);
        int latest = model.log.isEmpty() ? 0 : model.log.get(Math.max(0, model.log.size() - n(1, 30))).second / 60;
        int m = near(Math.max(0, latest - 2), latest + 2);
        switch (chance.nextInt(5)) {
            case 0:
                same("mend(" + c + ", " + what + ")", () -> keeper.mend(c, what), () -> model.mend(c, what));
                break;
            case 1:
                same("sounding(" + k + ", " + part + ")", () -> keeper.sounding(k, part), () -> model.sounding(k, part));
                break;
            case 2:
                same("witness(" + x + ", " + y + ", " + hour + ", " + k % 7 + ")", () -> keeper.witness(x, y, hour, k % 7),
                    () -> model.witness(x, y, hour, k % 7));
                break;
            default:
                same("heard(" + x + ", " + y + ", " + m + ", " + what + ")", () -> keeper.heard(x, y, m, what),
                    () -> model.heard(x, y, m, what));
        }
    }

    private void reckon() {
        int c = clock();
        int m = chance.nextInt(4) > 0 ? near(0, model.minute) : near(0, 100000);
        int recent = n(Math.max(0, model.minute - 5), model.minute);
        int readAt = chance.nextBoolean() ? recent : m;
        int known = near(0, model.minute);
        int e = chance.nextInt(3) > 0 ? near(-5000, 5000) : near(-100000000, 100000000);
        int bound = chance.nextInt(3) > 0 ? near(0, 10000) : near(0, 100000000);
        switch (chance.nextInt(11)) {
            case 0:
                same("keeper(" + m % 100 + ", " + e % 60 + ")", () -> keeper.keeper(m % 100, e % 60), () -> model.keeper(m % 100, e % 60));
                break;
            case 1:
                planOrRound();
                break;
            case 2:
            case 3:
            case 4:
                same("read(" + c + ", " + readAt + ", " + e + ")", () -> keeper.read(c, readAt, e), () -> model.read(c, readAt, e));
                break;
            case 5:
                same("reckoned(" + c + ", " + m + ", " + known + ")", () -> keeper.reckoned(c, m, known),
                    () -> model.reckoned(c, m, known));
                break;
            case 6:
                same("speed(" + c + ", " + known + ")", () -> keeper.speed(c, known), () -> model.speed(c, known));
                break;
            case 7:
                same("regulated(" + c + ", " + known + ")", () -> keeper.regulated(c, known), () -> model.regulated(c, known));
                break;
            case 8:
                same("beyond(" + c + ", " + bound + ", " + known + ")", () -> keeper.beyond(c, bound, known),
                    () -> model.beyond(c, bound, known));
                break;
            case 9:
                same("law(" + c + ", " + m + ")", () -> keeper.law(c, m), () -> model.law(c, m));
                break;
            default:
                same("lawful(" + m + ", " + known + ")", () -> keeper.lawful(m, known), () -> model.lawful(m, known));
        }
    }

    private void planOrRound() {
        int all = (1 << model.clocks.size()) - 1;
        int bits = near(0, all) & (chance.nextBoolean() ? -1 : near(0, all));
        int days = near(1, 10);
        int many = near(1, 2);
        int what = near(0, 7);
        same("round(" + bits + ", " + what + ")", () -> keeper.round(bits, what), () -> model.round(bits, what));
        int few = Integer.bitCount(bits) > 4 ? bits & bits - 1 : bits;
        for (int w = 0; w <= Math.min(days, 12); w++) {
            int part = w;
            same("plan(" + few + ", " + days + ", " + many + ", " + w + ")", () -> keeper.plan(few, days, many, part),
                () -> model.plan(few, days, many, part));
        }
    }
}
