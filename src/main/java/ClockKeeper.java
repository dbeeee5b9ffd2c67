import java.util.Arrays;
import java.util.NoSuchElementException;

/** A keeper of town clocks; ../shared/DOC.md tells what each call promises, and the words used here. */
public final class ClockKeeper {
    public static final int NONE = -1;
    public static final int VOID = -2000000000;

    private static final int LAST_MINUTE = 100000;
    private static final int HOUR_MINUTES = 60;
    private static final int DAY_MINUTES = 1440;
    private static final int MOST_WAIT = 10000;
    private static final int MOST_FORETOLD = 3000;
    private static final int MOST_CLOCKS = 8;
    private static final int MOST_BYTES = 400;
    private static final int LAST_PLACE = 99;
    private static final int MOST_PENNIES = 20;
    private static final int MOST_HAND_SECONDS = 43200;
    private static final int WORST_ERROR = 100000000;
    private static final long FARTHER_THAN_ANY = 1L << 60;
    private static final long SECOND = 1000000L;
    private static final long QUARTER = 900L * SECOND;
    private static final long HOUR = 4L * QUARTER;
    private static final long DAY = 24L * HOUR;

    private final Almanac almanac = new Almanac();
    private final int[] tape = new int[MOST_BYTES];
    private int tapeLength = 0;
    private final TextReader reader = new TextReader();
    private Works spare = null;
    private int faultPlace = NONE;
    private final Clock[] clocks = new Clock[MOST_CLOCKS];
    private int clockCount = 0;
    private final Clock ghost = new Clock(0, 0);
    private final Soundings soundings = new Soundings();
    private int keeperX = 0;
    private int keeperY = 0;
    private final Round rounds = new Round();
    private final Plan plans = new Plan();
    private final Readings readings = new Readings();
    private final Law words = new Law();

    public ClockKeeper() {
    }

    public int warmth(int degrees) throws IllegalArgumentException {
        need(degrees >= -30 && degrees <= 50);
        return almanac.tellWarmth(degrees);
    }

    public boolean leap(boolean is) {
        boolean was = almanac.leap;
        almanac.leap = is;
        return was;
    }

    public int feed(int a, int b, int c, int d, int e) {
        if (tapeLength + 20 > MOST_BYTES) {
            return NONE;
        }
        putOnTape(a);
        putOnTape(b);
        putOnTape(c);
        putOnTape(d);
        putOnTape(e);
        return tapeLength;
    }

    public int clock(int x, int y, int n) throws IllegalArgumentException {
        need(isPlace(x, y) && isOnTape(n));
        if (clockCount >= MOST_CLOCKS) {
            leaveUnread();
            return -1;
        }
        int fault = readSpare(n);
        if (fault != 0) {
            return fault - 10;
        }
        Clock made = new Clock(x, y);
        made.begin(spare, almanac);
        spare = null;
        clocks[clockCount] = made;
        clockCount++;
        return clockCount - 1;
    }

    public int fault() {
        return faultPlace;
    }

    public int wait(int minutes) throws IllegalArgumentException, IllegalStateException {
        need(minutes >= 0 && minutes <= MOST_WAIT);
        needMinute(almanac.minute + minutes);
        for (int i = 0; i < minutes; i++) {
            passMinute();
        }
        return almanac.minute;
    }

    public int dial(int clock) throws NoSuchElementException {
        return theClock(clock).shown();
    }

    public int error(int clock) throws NoSuchElementException {
        return theClock(clock).errorIn(almanac.minute);
    }

    public int rate(int clock) throws NoSuchElementException {
        return theClock(clock).rateIn(almanac, almanac.minute);
    }

    public int told(int clock, int what) throws NoSuchElementException, IllegalArgumentException {
        Clock c = theClock(clock);
        need(what >= 0 && what <= 8);
        switch (what) {
            case 0:
                return c.left;
            case 1:
                return c.rings;
            case 2:
                return c.wheelPlace();
            case 3:
                return c.date;
            case 4:
                return c.month;
            case 5:
                return c.left == 0 ? 1 : 0;
            case 6:
                return c.hasTrueDate(almanac) ? 1 : 0;
            case 7:
                return stepOf(c);
            default:
                return c.strokesNext(almanac.leap);
        }
    }

    public int wind(int clock, int which) throws NoSuchElementException, IllegalArgumentException {
        Clock c = theClock(clock);
        need(which == 0 || which == 1);
        int was = which == 0 ? c.left : c.rings;
        if (which == 0) {
            c.left = c.works.fullLeft();
        } else {
            c.rings = c.works.strokes;
        }
        return was;
    }

    public int oil(int clock) throws NoSuchElementException {
        Clock c = theClock(clock);
        int days = almanac.today() - c.oiledDay;
        c.oiledDay = almanac.today();
        return days;
    }

    public int hands(int clock, int seconds, boolean let) throws NoSuchElementException, IllegalArgumentException {
        Clock c = theClock(clock);
        need(seconds >= -MOST_HAND_SECONDS && seconds <= MOST_HAND_SECONDS);
        return c.moveHands(seconds, let);
    }

    public int date(int clock) throws NoSuchElementException {
        Clock c = theClock(clock);
        if (c.hasTrueDate(almanac)) {
            return 0;
        }
        c.takeTrueDate(almanac);
        return 1;
    }

    public int pennies(int clock, int pennies) throws NoSuchElementException, IllegalArgumentException {
        Clock c = theClock(clock);
        need(pennies >= -MOST_PENNIES && pennies <= MOST_PENNIES);
        int were = c.pennies;
        c.pennies = pennies;
        return were;
    }

    public int refit(int clock, int n) throws NoSuchElementException, IllegalArgumentException {
        Clock c = theClock(clock);
        need(isOnTape(n));
        int fault = readSpare(n);
        if (fault != 0) {
            return fault - 10;
        }
        Works old = c.works;
        c.fit(spare);
        spare = old;
        return 1;
    }

    public int trip(int clock, boolean on) throws NoSuchElementException {
        Clock c = theClock(clock);
        if (!c.works.hasWheel) {
            return -1;
        }
        if (on && c.works.toothAt(c.place) > c.rings) {
            return -2;
        }
        if (on) {
            c.rings -= c.works.toothAt(c.place);
        }
        c.place = c.works.placeAfter(c.place, on ? 1 : -1);
        return c.place;
    }

    public int mend(int clock, int what) throws NoSuchElementException, IllegalArgumentException {
        Clock c = theClock(clock);
        need(what >= 0 && what <= 2);
        if (!c.works.hasWheel) {
            return NONE;
        }
        int trips = c.actsToStep(1);
        int lifts = c.actsToStep(-1);
        if (trips == NONE || lifts == NONE) {
            return NONE;
        }
        int taken = c.ringsOfTrips(trips);
        boolean lifted = taken > c.rings || trips + taken > Clock.LIFT_COST * lifts;
        if (what == 0) {
            return lifted ? Clock.LIFT_COST * lifts : trips + taken;
        }
        if (what == 1) {
            return lifted ? lifts : trips;
        }
        return lifted ? 1 : 0;
    }

    public int sounding(int k, int what) throws IllegalArgumentException {
        need(what >= 0 && what <= 3);
        return soundings.partOf(k, what);
    }

    public int heard(int x, int y, int minute, int what) throws IllegalArgumentException {
        need(isPlace(x, y) && isMinute(minute) && what >= 0 && what <= 2);
        soundings.listen(clocks, x, y, minute);
        if (what == 0) {
            return soundings.counted;
        }
        return what == 1 ? soundings.takenFor() : soundings.countedClocks;
    }

    public int witness(int x, int y, int hour, int k) throws IllegalArgumentException {
        need(isPlace(x, y) && hour >= 1 && hour <= 12);
        return soundings.witnessOf(clocks, x, y, hour, k);
    }

    public int keeper(int x, int y) throws IllegalArgumentException {
        need(isPlace(x, y));
        int far = Math.abs(keeperX - x) + Math.abs(keeperY - y);
        keeperX = x;
        keeperY = y;
        return far;
    }

    public int round(int clocks, int what) throws IllegalArgumentException {
        need(areClocks(clocks, 6));
        int many = Integer.bitCount(clocks);
        need(what >= 0 && what <= 1 + many);
        rounds.seek(this.clocks, clocks, keeperX, keeperY);
        if (what == 0) {
            return rounds.bestStops;
        }
        return what == 1 ? rounds.bestDone : rounds.bestAt(what - 2);
    }

    public int plan(int clocks, int days, int many, int what) throws IllegalArgumentException {
        need(areClocks(clocks, 4) && days >= 1 && days <= Plan.MOST_DAYS);
        need((many == 1 || many == 2) && what >= 0 && what <= days);
        plans.begin(this.clocks, clocks, days, many);
        return what == 0 ? plans.windings() : plans.woundAt(what - 1);
    }

    public int read(int clock, int minute, int error) throws NoSuchElementException, IllegalArgumentException {
        theClock(clock);
        need(minute >= 0 && minute <= almanac.minute && error >= -WORST_ERROR && error <= WORST_ERROR);
        return readings.add(clock, minute, error, almanac.minute);
    }

    public long reckoned(int clock, int minute, int known) throws NoSuchElementException, IllegalArgumentException {
        theClock(clock);
        need(isMinute(minute));
        readings.recall(clock, known);
        return readings.errorAt(minute);
    }

    public long speed(int clock, int known) throws NoSuchElementException {
        theClock(clock);
        readings.recall(clock, known);
        return readings.rateReckoned();
    }

    public int regulated(int clock, int known) throws NoSuchElementException {
        Clock c = theClock(clock);
        readings.recall(clock, known);
        long rate = readings.rateReckoned();
        return readings.recalled < 2 ? VOID : bestPennies(rate, c);
    }

    public int beyond(int clock, int bound, int known) throws NoSuchElementException, IllegalArgumentException {
        theClock(clock);
        need(bound >= 0 && bound <= WORST_ERROR);
        readings.recall(clock, known);
        return readings.firstBeyond(bound);
    }

    public int law(int clock, int from) throws NoSuchElementException, IllegalArgumentException {
        theClock(clock);
        need(isMinute(from));
        return words.add(clock, from, almanac.minute);
    }

    public int lawful(int minute, int known) {
        return words.clockAt(minute, known);
    }

    public int kept(int clock, int hour) throws NoSuchElementException {
        return theClock(clock).shownIn(hour);
    }

    public int foretold(int clock, int minutes, int what)
            throws NoSuchElementException, IllegalArgumentException, IllegalStateException {
        Clock c = theClock(clock);
        need(minutes >= 1 && minutes <= MOST_FORETOLD && what >= 0 && what <= 6);
        int end = almanac.minute + minutes;
        needMinute(end);
        ghost.become(c);
        int times = 0;
        int strokes = 0;
        for (int minute = almanac.minute; minute < end; minute++) {
            ghost.goMinute(almanac, minute);
            int heard = ghost.heardStrokes();
            times += heard > 0 ? 1 : 0;
            strokes += heard;
        }
        switch (what) {
            case 0:
                return ghost.errorIn(end);
            case 1:
                return ghost.left;
            case 2:
                return ghost.rings;
            case 3:
                return ghost.wheelPlace();
            case 4:
                return ghost.date;
            case 5:
                return times;
            default:
                return strokes;
        }
    }

    public int count(int what) {
        switch (what) {
            case 0:
                return almanac.minute;
            case 1:
                return clockCount;
            case 2:
                return almanac.hoursTold;
            case 3:
                return readings.count;
            case 4:
                return words.count;
            case 5:
                return soundings.total;
            case 6:
                return tapeLength;
            case 7:
                return almanac.trueDate();
            case 8:
                return almanac.trueMonth();
            default:
                return NONE;
        }
    }

    private static void need(boolean holds) {
        if (!holds) {
            throw new IllegalArgumentException();
        }
    }

    private static void needMinute(int minute) {
        if (minute > LAST_MINUTE) {
            throw new IllegalStateException();
        }
    }

    private static boolean isPlace(int x, int y) {
        return x >= 0 && x <= LAST_PLACE && y >= 0 && y <= LAST_PLACE;
    }

    private static boolean isMinute(int minute) {
        return minute >= 0 && minute <= LAST_MINUTE;
    }

    private boolean isOnTape(int n) {
        return n >= 0 && n <= tapeLength;
    }

    private boolean areClocks(int bits, int most) {
        return bits >= 1 && bits < 1 << clockCount && Integer.bitCount(bits) <= most;
    }

    private Clock theClock(int clock) {
        if (clock < 0 || clock >= clockCount || clock >= clocks.length || clocks[clock] == null) {
            throw new NoSuchElementException();
        }
        return clocks[clock];
    }

    private void putOnTape(int number) {
        for (int shift = 24; shift >= 0 && tapeLength < tape.length; shift -= 8) {
            tape[tapeLength] = number >>> shift & 255;
            tapeLength++;
        }
    }

    /** The TAPE is empty behind this, whether the text had a fault or not. */
    private int readSpare(int n) {
        if (spare == null) {
            spare = new Works();
        }
        tapeLength = 0;
        int fault = reader.readWorks(tape, n, spare);
        faultPlace = reader.place;
        return fault;
    }

    /** No CLOCK can come of the TEXT, so it is gone without a look at it: whatever stood there is no FAULT of this call. */
    private void leaveUnread() {
        tapeLength = 0;
        faultPlace = NONE;
    }

    private void passMinute() {
        int minute = almanac.minute;
        for (int i = 0; i < clockCount && i < clocks.length; i++) {
            Clock c = clocks[i];
            if (c != null) {
                c.keepHour(minute);
                c.goMinute(almanac, minute);
                if (c.heardStrokes() > 0) {
                    soundings.add(i, 60 * minute + c.second, c.chime, c.strike);
                }
            }
        }
        almanac.minute = minute + 1;
    }

    private static int stepOf(Clock c) {
        if (!c.works.hasWheel) {
            return NONE;
        }
        return c.inStepFrom(c.place) ? 1 : 0;
    }

    private static int bestPennies(long rate, Clock c) {
        int best = -MOST_PENNIES;
        long nearest = FARTHER_THAN_ANY;
        for (int p = -MOST_PENNIES; p <= MOST_PENNIES; p++) {
            long off = Math.abs(rate + (long) c.works.penny * (p - c.pennies));
            if (off < nearest) {
                nearest = off;
                best = p;
            }
        }
        return best;
    }

    /** True time, the true date, and the warmth as far as it is told. */
    private static final class Almanac {
        private static final int MOST_HOURS = 1700;
        private static final int MILD = 15;
        private static final int[] MONTH_DAYS = {31, 28, 31, 30, 31, 30, 31, 31, 30, 31, 30, 31};

        int minute = 0;
        boolean leap = false;
        final int[] warmths = new int[MOST_HOURS];
        int hoursTold = 0;

        int tellWarmth(int degrees) {
            if (hoursTold >= warmths.length) {
                return -1;
            }
            warmths[hoursTold] = degrees;
            hoursTold++;
            return hoursTold;
        }

        int warmthIn(int atMinute) {
            int hour = atMinute / HOUR_MINUTES;
            return hour >= 0 && hour < hoursTold && hour < warmths.length ? warmths[hour] : MILD;
        }

        int today() {
            return minute / DAY_MINUTES;
        }

        static int daysOf(int month, boolean leap) {
            if (month < 1 || month > MONTH_DAYS.length) {
                return 31;
            }
            return month == 2 && leap ? 29 : MONTH_DAYS[month - 1];
        }

        int dayOfYear() {
            return today() % (leap ? 366 : 365);
        }

        int trueMonth() {
            int rest = dayOfYear();
            int month = 1;
            for (; month < 12 && rest >= daysOf(month, leap); month++) {
                rest -= daysOf(month, leap);
            }
            return month;
        }

        int trueDate() {
            int rest = dayOfYear();
            for (int month = 1; month < 12 && rest >= daysOf(month, leap); month++) {
                rest -= daysOf(month, leap);
            }
            return rest + 1;
        }
    }

    /** What a rack's E says, as steps on a stack: a number from 0 on is put there, the others are named below. */
    private static final class Formula {
        static final int HOUR_SHOWN = -1;
        static final int DATE_SHOWN = -2;
        static final int MONTH_SHOWN = -3;
        static final int PLUS = -4;
        static final int MINUS = -5;
        static final int TIMES = -6;
        static final int BY = -7;
        static final int LEFT_OVER = -8;
        static final int IF_LESS = -9;
        static final int IF_MORE = -10;
        static final int IF_ALIKE = -11;

        final int[] steps = new int[MOST_BYTES];
        int length = 0;
        // Eight open brackets leave at most five numbers each waiting, and three stand outside of them.
        final int[] stack = new int[64];

        boolean add(int step) {
            if (length >= steps.length) {
                return false;
            }
            steps[length] = step;
            length++;
            return true;
        }

        int value(int hour, int date, int month) {
            int top = 0;
            for (int i = 0; i < length && i < steps.length; i++) {
                int step = steps[i];
                if (step >= 0) {
                    top = push(top, step);
                } else if (step == HOUR_SHOWN) {
                    top = push(top, hour);
                } else if (step == DATE_SHOWN) {
                    top = push(top, date);
                } else if (step == MONTH_SHOWN) {
                    top = push(top, month);
                } else if (step <= IF_LESS) {
                    top = choose(top, step);
                } else {
                    top = join(top, step);
                }
            }
            return stack[0];
        }

        private int push(int top, int number) {
            if (top < 0 || top >= stack.length) {
                return top;
            }
            stack[top] = number;
            return top + 1;
        }

        private int join(int top, int step) {
            if (top < 2 || top > stack.length) {
                return top;
            }
            int a = stack[top - 2];
            int b = stack[top - 1];
            int joined = 0;
            if (step == PLUS) {
                joined = a + b;
            } else if (step == MINUS) {
                joined = a - b;
            } else if (step == TIMES) {
                joined = a * b;
            } else if (b != 0) {
                joined = step == BY ? a / b : a % b;
            }
            stack[top - 2] = joined;
            return top - 1;
        }

        private int choose(int top, int step) {
            if (top < 4 || top > stack.length) {
                return top;
            }
            int a = stack[top - 4];
            int b = stack[top - 3];
            boolean holds = a == b;
            if (step == IF_LESS) {
                holds = a < b;
            } else if (step == IF_MORE) {
                holds = a > b;
            }
            stack[top - 4] = holds ? stack[top - 2] : stack[top - 1];
            return top - 3;
        }
    }

    /** What the TEXT of a clock tells. */
    private static final class Works {
        static final int PLAIN = 0;
        static final int BY_MONTHS = 1;
        static final int BY_LEAP = 2;
        static final int MOST_TEETH = 24;
        static final int MOST_STRUCK = 24;

        int run;
        int base;
        int warm;
        int wear;
        int pull;
        int penny;
        int strokes;
        int reach;
        int calendar;
        int silentFrom;
        int silentTo;
        boolean stopped;
        boolean hasWheel;
        final int[] teeth = new int[MOST_TEETH];
        int toothCount;
        final int[] quarters = new int[4];
        final Formula rack = new Formula();

        void reset() {
            run = 8;
            base = 0;
            warm = 0;
            wear = 0;
            pull = 0;
            penny = 4;
            strokes = 400;
            reach = 30;
            calendar = PLAIN;
            silentFrom = 0;
            silentTo = 0;
            stopped = false;
            Arrays.fill(quarters, 0);
            strikeHours();
        }

        /** The rack that stands where the text tells none: (hour+11)%12+1. */
        private void strikeHours() {
            beginRack();
            rack.add(Formula.HOUR_SHOWN);
            rack.add(11);
            rack.add(Formula.PLUS);
            rack.add(12);
            rack.add(Formula.LEFT_OVER);
            rack.add(1);
            rack.add(Formula.PLUS);
        }

        void beginRack() {
            hasWheel = false;
            toothCount = 0;
            rack.length = 0;
        }

        void beginWheel() {
            hasWheel = true;
            toothCount = 0;
        }

        boolean addTooth(int tooth) {
            if (toothCount < 0 || toothCount >= teeth.length) {
                return false;
            }
            teeth[toothCount] = tooth;
            toothCount++;
            return true;
        }

        int toothAt(int place) {
            return place >= 0 && place < toothCount && place < teeth.length ? teeth[place] : 0;
        }

        int placeAfter(int place, int by) {
            return toothCount < 1 ? 0 : Math.floorMod(place + by, toothCount);
        }

        int chimeOf(int quarter) {
            return quarter >= 0 && quarter < quarters.length ? quarters[quarter] : 0;
        }

        int fullLeft() {
            return DAY_MINUTES * run;
        }

        boolean isSilent(int hour) {
            if (silentFrom <= silentTo) {
                return hour >= silentFrom && hour < silentTo;
            }
            return hour >= silentFrom || hour < silentTo;
        }

        int lastDate(int month, boolean leap) {
            return calendar == PLAIN ? 31 : Almanac.daysOf(month, calendar == BY_LEAP && leap);
        }

        int rackStrokes(int hour, int date, int month) {
            return Math.max(0, Math.min(MOST_STRUCK, rack.value(hour, date, month)));
        }
    }

    /** Reads the TEXT of a clock; the first fault from the left is the one that stays. */
    private static final class TextReader {
        private static final int UNFIT = 1;
        private static final int NO_SUCH_NUMBER = 2;
        private static final int TOO_MANY = 3;
        private static final int MOST_PARTS = 16;
        private static final int MOST_OPEN = 8;
        private static final int HUGE = 100000;

        private int[] text;
        private int length;
        private int at;
        private int open;
        private int fault;
        int place = NONE;
        private int wordFrom;
        private int wordEnd;
        private int numberFrom;
        private Works works;

        /** The FAULT, 0 without; place is where it is. */
        int readWorks(int[] bytes, int n, Works into) {
            text = bytes;
            length = Math.min(n, bytes.length);
            at = 0;
            open = 0;
            fault = 0;
            place = NONE;
            works = into;
            into.reset();
            skip(0);
            for (int parts = 0; parts <= MOST_PARTS && fault == 0 && at < length; parts++) {
                readPart(parts);
            }
            return fault;
        }

        private boolean refuse(int kind, int where) {
            if (fault == 0) {
                fault = kind;
                place = where;
            }
            return false;
        }

        /** Blanks go with the signs that stand ahead of them, so that what is next begins where at is. */
        private void skip(int signs) {
            for (at += signs; at < length && text[at] == ' '; at++) {
            }
        }

        private boolean nextIs(char sign) {
            return at < length && text[at] == sign;
        }

        private boolean nextIsDigit() {
            return at < length && text[at] >= '0' && text[at] <= '9';
        }

        private boolean takeSign(char sign) {
            if (!nextIs(sign)) {
                return refuse(UNFIT, at);
            }
            skip(1);
            return true;
        }

        private void takeWord() {
            wordFrom = at;
            for (; at < length && text[at] >= 'a' && text[at] <= 'z'; at++) {
            }
            wordEnd = at;
            skip(0);
        }

        private boolean wordIs(String word) {
            boolean alike = word.length() == wordEnd - wordFrom;
            for (int i = 0; alike && i < word.length(); i++) {
                alike = word.charAt(i) == text[wordFrom + i];
            }
            return alike;
        }

        private int takeNumber(int least, int most) {
            numberFrom = at;
            if (!nextIsDigit()) {
                refuse(UNFIT, at);
                return 0;
            }
            int number = 0;
            for (; at < length && text[at] >= '0' && text[at] <= '9'; at++) {
                number = Math.min(HUGE, 10 * number + text[at] - '0');
            }
            skip(0);
            if (number < least || number > most) {
                refuse(NO_SUCH_NUMBER, numberFrom);
                return 0;
            }
            return number;
        }

        private int takeSigned() {
            boolean minus = nextIs('-');
            if (minus) {
                skip(1);
            }
            int number = takeNumber(0, 500);
            return minus ? -number : number;
        }

        private boolean readPart(int partsAhead) {
            takeWord();
            boolean numbered = isNumbered();
            if (!numbered && !wordIs("strike") && !wordIs("quarters") && !wordIs("silent") && !wordIs("calendar")) {
                return refuse(UNFIT, wordFrom);
            }
            if (partsAhead >= MOST_PARTS) {
                return refuse(TOO_MANY, wordFrom);
            }
            if (numbered) {
                readNumbered();
            } else if (wordIs("strike")) {
                readStrike();
            } else if (wordIs("quarters")) {
                readQuarters();
            } else if (wordIs("silent")) {
                readSilent();
            } else {
                readCalendar();
            }
            return fault == 0 && takeSign(';');
        }

        private boolean isNumbered() {
            return wordIs("run") || wordIs("base") || wordIs("warm") || wordIs("wear") || wordIs("pull")
                || wordIs("penny") || wordIs("strokes") || wordIs("reach");
        }

        private void readNumbered() {
            if (wordIs("run")) {
                works.run = takeNumber(1, 31);
            } else if (wordIs("base")) {
                works.base = takeSigned();
            } else if (wordIs("warm")) {
                works.warm = takeSigned();
            } else if (wordIs("wear")) {
                works.wear = takeNumber(0, 500);
            } else if (wordIs("pull")) {
                works.pull = takeNumber(0, 500);
            } else if (wordIs("penny")) {
                works.penny = takeNumber(0, 50);
            } else if (wordIs("strokes")) {
                works.strokes = takeNumber(1, 2000);
            } else {
                works.reach = takeNumber(0, 200);
            }
        }

        private void readStrike() {
            takeWord();
            if (wordIs("rack")) {
                works.beginRack();
                readSum();
            } else if (wordIs("wheel")) {
                works.beginWheel();
                readTeeth();
            } else {
                refuse(UNFIT, wordFrom);
            }
        }

        private void readTeeth() {
            boolean more = true;
            for (int i = 0; more && i <= Works.MOST_TEETH; i++) {
                int tooth = takeNumber(0, 12);
                if (fault == 0 && !works.addTooth(tooth)) {
                    refuse(TOO_MANY, numberFrom);
                }
                more = fault == 0 && nextIs(',');
                if (more) {
                    skip(1);
                }
            }
        }

        private void readQuarters() {
            for (int i = 0; fault == 0 && i < works.quarters.length; i++) {
                works.quarters[i] = takeNumber(0, 16);
            }
        }

        private void readSilent() {
            works.silentFrom = takeNumber(0, 23);
            if (fault != 0 || !takeSign('-')) {
                return;
            }
            works.silentTo = takeNumber(0, 23);
            takeWord();
            works.stopped = wordIs("stopped");
            if (!works.stopped && !wordIs("held")) {
                refuse(UNFIT, wordFrom);
            }
        }

        private void readCalendar() {
            takeWord();
            if (wordIs("plain")) {
                works.calendar = Works.PLAIN;
            } else if (wordIs("months")) {
                works.calendar = Works.BY_MONTHS;
            } else if (wordIs("leap")) {
                works.calendar = Works.BY_LEAP;
            } else {
                refuse(UNFIT, wordFrom);
            }
        }

        /** E; it and the three below call one another no deeper than MOST_OPEN brackets are open. */
        private boolean readSum() {
            boolean well = readProduct();
            for (int i = 0; well && i < MOST_BYTES && (nextIs('+') || nextIs('-')); i++) {
                int step = text[at] == '+' ? Formula.PLUS : Formula.MINUS;
                skip(1);
                well = readProduct() && works.rack.add(step);
            }
            return well;
        }

        private boolean readProduct() {
            boolean well = readUnit();
            for (int i = 0; well && i < MOST_BYTES && (nextIs('*') || nextIs('/') || nextIs('%')); i++) {
                int step = Formula.LEFT_OVER;
                if (text[at] == '*') {
                    step = Formula.TIMES;
                } else if (text[at] == '/') {
                    step = Formula.BY;
                }
                skip(1);
                well = readUnit() && works.rack.add(step);
            }
            return well;
        }

        private boolean readUnit() {
            if (nextIsDigit()) {
                int number = takeNumber(0, 99);
                return fault == 0 && works.rack.add(number);
            }
            if (nextIs('(')) {
                return takeOpening() && readSum() && takeClosing();
            }
            takeWord();
            if (wordIs("hour")) {
                return works.rack.add(Formula.HOUR_SHOWN);
            }
            if (wordIs("date")) {
                return works.rack.add(Formula.DATE_SHOWN);
            }
            if (wordIs("month")) {
                return works.rack.add(Formula.MONTH_SHOWN);
            }
            return wordIs("if") ? readChoice() : refuse(UNFIT, wordFrom);
        }

        private boolean readChoice() {
            if (!takeOpening() || !readSum()) {
                return false;
            }
            int step = Formula.IF_ALIKE;
            if (nextIs('<')) {
                step = Formula.IF_LESS;
            } else if (nextIs('>')) {
                step = Formula.IF_MORE;
            } else if (!nextIs('=')) {
                return refuse(UNFIT, at);
            }
            skip(1);
            return readSum() && takeSign(',') && readSum() && takeSign(',') && readSum() && takeClosing()
                && works.rack.add(step);
        }

        private boolean takeOpening() {
            if (!nextIs('(')) {
                return refuse(UNFIT, at);
            }
            if (open >= MOST_OPEN) {
                return refuse(TOO_MANY, at);
            }
            open++;
            skip(1);
            return true;
        }

        private boolean takeClosing() {
            if (!nextIs(')')) {
                return refuse(UNFIT, at);
            }
            open--;
            skip(1);
            return true;
        }
    }

    /** A clock as it stands: its works, and all that goes on in it. */
    private static final class Clock {
        static final int LIFT_COST = 10;
        private static final int HOURS_KEPT = LAST_MINUTE / HOUR_MINUTES + 1;

        final int x;
        final int y;
        Works works = null;
        long dial = 0L;
        int date = 1;
        int month = 1;
        int left = 0;
        int rings = 0;
        int place = 0;
        int pennies = 0;
        int oiledDay = 0;
        // Stays null in the clock that foretelling moves, which keeps nothing.
        private int[] shownHours = null;
        // What the latest MINUTE, or quarter under the hands, made sound.
        int second = 0;
        int chime = 0;
        int strike = 0;
        boolean audible = false;

        Clock(int x, int y) {
            this.x = x;
            this.y = y;
        }

        void begin(Works fitted, Almanac almanac) {
            works = fitted;
            left = fitted.fullLeft();
            rings = fitted.strokes;
            oiledDay = almanac.today();
            takeTrueDate(almanac);
            shownHours = new int[HOURS_KEPT];
            Arrays.fill(shownHours, NONE);
        }

        void fit(Works fitted) {
            works = fitted;
            left = Math.min(left, fitted.fullLeft());
            rings = Math.min(rings, fitted.strokes);
            place = 0;
        }

        void become(Clock other) {
            works = other.works;
            dial = other.dial;
            date = other.date;
            month = other.month;
            left = other.left;
            rings = other.rings;
            place = other.place;
            pennies = other.pennies;
            oiledDay = other.oiledDay;
        }

        int farFrom(int otherX, int otherY) {
            return Math.abs(x - otherX) + Math.abs(y - otherY);
        }

        int shown() {
            return (int) (dial / 1000L);
        }

        void keepHour(int minute) {
            int hour = minute / HOUR_MINUTES;
            if (minute % HOUR_MINUTES == 0 && shownHours != null && hour >= 0 && hour < shownHours.length) {
                shownHours[hour] = shown();
            }
        }

        int shownIn(int hour) {
            return shownHours == null || hour < 0 || hour >= shownHours.length ? NONE : shownHours[hour];
        }

        int errorIn(int minute) {
            long off = dial - minute % DAY_MINUTES * 60L * SECOND;
            long nearest = Math.floorMod(off + DAY / 2L, DAY) - DAY / 2L;
            return (int) (nearest / 1000L);
        }

        int rateIn(Almanac almanac, int minute) {
            int full = works.fullLeft();
            int tenths = full < 1 ? 0 : 10 * (full - left) / full;
            int days = minute / DAY_MINUTES - oiledDay;
            return works.base + works.warm * (almanac.warmthIn(minute) - Almanac.MILD)
                - works.wear * days - works.pull * tenths + works.penny * pennies;
        }

        void goMinute(Almanac almanac, int minute) {
            chime = 0;
            strike = 0;
            if (left <= 0) {
                return;
            }
            long from = dial;
            long to = from + Math.max(0L, 60L * SECOND + 60L * rateIn(almanac, minute));
            left--;
            dial = to % DAY;
            long quarter = (from / QUARTER + 1L) * QUARTER;
            if (to > from && quarter <= to) {
                second = (int) Math.min(59L, 60L * (quarter - from) / (to - from));
                if (quarter == DAY) {
                    turnDate(almanac.leap);
                }
                sound(quarter);
            }
        }

        /** Strokes of what sounded last that anybody hears. */
        int heardStrokes() {
            return audible ? chime + strike : 0;
        }

        private boolean endsMonth(boolean leap) {
            return date >= works.lastDate(month, leap);
        }

        private int dateBehind(boolean leap) {
            return endsMonth(leap) ? 1 : date + 1;
        }

        private int monthBehind(boolean leap) {
            return endsMonth(leap) ? month % 12 + 1 : month;
        }

        private void turnDate(boolean leap) {
            int nextMonth = monthBehind(leap);
            date = dateBehind(leap);
            month = nextMonth;
        }

        boolean hasTrueDate(Almanac almanac) {
            return date == almanac.trueDate() && month == almanac.trueMonth();
        }

        void takeTrueDate(Almanac almanac) {
            date = almanac.trueDate();
            month = almanac.trueMonth();
        }

        private void sound(long quarter) {
            int quarters = (int) (quarter / QUARTER) % 96;
            int hour = quarters / 4;
            boolean silent = works.isSilent(hour);
            audible = !silent;
            if (silent && works.stopped) {
                return;
            }
            chime = takeRings(works.chimeOf((quarters + 3) % 4));
            if (quarters % 4 == 0 && rings > 0) {
                strike = takeRings(strokesDue(hour, date, month));
                place = works.placeAfter(place, 1);
            }
        }

        private int takeRings(int wanted) {
            int taken = Math.min(wanted, rings);
            rings -= taken;
            return taken;
        }

        private int strokesDue(int hour, int dateThen, int monthThen) {
            return works.hasWheel ? works.toothAt(place) : works.rackStrokes(hour, dateThen, monthThen);
        }

        private int nextHour() {
            return (int) (dial / HOUR + 1L) % 24;
        }

        /** At midnight the DATE turns ahead of the STRIKE, so that a rack sees the one behind. */
        int strokesNext(boolean leap) {
            int hour = nextHour();
            return hour == 0 ? strokesDue(hour, dateBehind(leap), monthBehind(leap)) : strokesDue(hour, date, month);
        }

        int moveHands(int seconds, boolean let) {
            long to = dial + seconds * SECOND;
            int hours = 0;
            for (long quarter = (dial / QUARTER + 1L) * QUARTER; quarter <= to; quarter += QUARTER) {
                hours += quarter % HOUR == 0L ? 1 : 0;
                if (let) {
                    sound(quarter);
                }
            }
            dial = Math.floorMod(to, DAY);
            return hours;
        }

        int wheelPlace() {
            return works.hasWheel ? place : NONE;
        }

        boolean inStepFrom(int from) {
            int next = nextHour();
            boolean in = true;
            for (int i = 0; in && i < 24; i++) {
                in = works.toothAt(works.placeAfter(from, i)) == (next + i + 11) % 12 + 1;
            }
            return in;
        }

        /** How few TRIPS (by 1) or LIFTS (by -1) bring the wheel IN STEP; NONE if no number of them does. */
        int actsToStep(int by) {
            for (int acts = 0; acts < works.toothCount; acts++) {
                if (inStepFrom(works.placeAfter(place, by * acts))) {
                    return acts;
                }
            }
            return NONE;
        }

        int ringsOfTrips(int trips) {
            int taken = 0;
            for (int i = 0; i < trips; i++) {
                taken += works.toothAt(works.placeAfter(place, i));
            }
            return taken;
        }

        /** What a WINDING takes when so many minutes are left. */
        int windingMinutes(int leftThen) {
            return (works.fullLeft() - leftThen + DAY_MINUTES - 1) / DAY_MINUTES;
        }
    }

    /** The latest SOUNDINGS that were heard, and what they are taken for where. */
    private static final class Soundings {
        private static final int MOST_KEPT = 200;
        private static final int LISTENED = 120;
        private static final int LONGEST_GAP = 3;
        private static final int STROKE_SECONDS = 2;

        private final int[] clockOf = new int[MOST_KEPT];
        private final int[] secondOf = new int[MOST_KEPT];
        private final int[] chimeOf = new int[MOST_KEPT];
        private final int[] strikeOf = new int[MOST_KEPT];
        int total = 0;
        private final int[] strokesAt = new int[LISTENED];
        private final int[] clocksAt = new int[LISTENED];
        int counted = 0;
        int countedClocks = 0;

        void add(int clock, int second, int chime, int strike) {
            int row = total % MOST_KEPT;
            clockOf[row] = clock;
            secondOf[row] = second;
            chimeOf[row] = chime;
            strikeOf[row] = strike;
            total++;
        }

        private int keptNow() {
            return Math.min(total, MOST_KEPT);
        }

        private int rowOf(int k) {
            return Math.floorMod(total - 1 - k, MOST_KEPT);
        }

        int partOf(int k, int what) {
            if (k < 0 || k >= keptNow()) {
                return NONE;
            }
            int row = rowOf(k);
            switch (what) {
                case 0:
                    return clockOf[row];
                case 1:
                    return secondOf[row];
                case 2:
                    return chimeOf[row];
                default:
                    return strikeOf[row];
            }
        }

        void listen(Clock[] clocks, int x, int y, int minute) {
            Arrays.fill(strokesAt, 0);
            Arrays.fill(clocksAt, 0);
            for (int k = 0; k < keptNow(); k++) {
                int row = rowOf(k);
                int clock = clockOf[row];
                Clock c = clock >= 0 && clock < clocks.length ? clocks[clock] : null;
                if (c != null && c.farFrom(x, y) <= c.works.reach) {
                    int first = secondOf[row] + c.farFrom(x, y) / 10 - 60 * minute;
                    hearStrokes(first, chimeOf[row] + strikeOf[row], 1 << clock);
                }
            }
            countFirstRun();
        }

        private void hearStrokes(int first, int strokes, int bit) {
            int second = first;
            for (int i = 0; i < strokes && second < LISTENED; i++) {
                if (second >= 0) {
                    strokesAt[second]++;
                    clocksAt[second] |= bit;
                }
                second += STROKE_SECONDS;
            }
        }

        private void countFirstRun() {
            counted = 0;
            countedClocks = 0;
            int latest = LISTENED;
            for (int second = 0; second < LISTENED && second - latest <= LONGEST_GAP; second++) {
                if (strokesAt[second] > 0) {
                    counted += strokesAt[second];
                    countedClocks |= clocksAt[second];
                    latest = second;
                }
            }
        }

        int takenFor() {
            return counted == 0 ? 0 : (counted + 11) % 12 + 1;
        }

        int witnessOf(Clock[] clocks, int x, int y, int hour, int k) {
            int ahead = k;
            int latest = NONE;
            for (int i = 0; ahead >= 0 && i < keptNow(); i++) {
                int minute = secondOf[rowOf(i)] / 60;
                if (minute != latest) {
                    latest = minute;
                    listen(clocks, x, y, minute);
                    if (takenFor() == hour) {
                        if (ahead == 0) {
                            return minute;
                        }
                        ahead--;
                    }
                }
            }
            return NONE;
        }
    }

    /** The order of winding that lets the fewest stop, sought among all orders. */
    private static final class Round {
        private static final int WORSE_THAN_ANY = 1000000000;

        private final int[] order = new int[6];
        private final int[] best = new int[6];
        private Clock[] clocks = null;
        int bestStops = 0;
        int bestDone = 0;

        void seek(Clock[] all, int bits, int x, int y) {
            clocks = all;
            bestStops = WORSE_THAN_ANY;
            bestDone = WORSE_THAN_ANY;
            goOn(0, bits, x, y, 0, 0);
        }

        int bestAt(int k) {
            return k >= 0 && k < best.length ? best[k] : NONE;
        }

        /** Orders come by numbers, so that of alike ones the first stays; depth ends at the six of a ROUND. */
        private void goOn(int depth, int bits, int x, int y, int time, int stops) {
            if (stops > bestStops || stops == bestStops && time >= bestDone) {
                return;
            }
            if (bits == 0 || depth >= order.length) {
                bestStops = stops;
                bestDone = time;
                System.arraycopy(order, 0, best, 0, order.length);
                return;
            }
            for (int i = 0; i < clocks.length; i++) {
                if (clocks[i] != null && (bits >> i & 1) == 1) {
                    order[depth] = i;
                    comeTo(clocks[i], depth, bits & ~(1 << i), clocks[i].farFrom(x, y) + time, stops);
                }
            }
        }

        private void comeTo(Clock c, int depth, int bitsLeft, int time, int stops) {
            int leftThen = Math.max(0, c.left - time);
            int stopped = leftThen == 0 ? 1 : 0;
            goOn(depth + 1, bitsLeft, c.x, c.y, time + c.windingMinutes(leftThen), stops + stopped);
        }
    }

    /**
     * The fewest windings over some days. Of a clock only its slack counts: at how many times still to come it goes
     * on unwound. Slack beyond the days that are left is all alike, which keeps the states few enough to note each.
     */
    private static final class Plan {
        static final int MOST_DAYS = 10;
        private static final int MOST_PLANNED = 4;
        private static final int NO_WAY = 63;
        private static final int NOTES = 39973;
        // Where the notes begin for so many days left: (days + 1) to the 4th are needed for each.
        private static final int[] NOTES_FROM = {0, 0, 16, 97, 353, 978, 2274, 4675, 8771, 15332, 25332};

        private final int[] numbers = new int[MOST_PLANNED];
        private final int[] woundSlack = new int[MOST_PLANNED];
        private int count = 0;
        private int days = 0;
        private int many = 0;
        private int state = NONE;
        private int[] notes = null;
        private int serial = 0;

        void begin(Clock[] clocks, int bits, int overDays, int atOnce) {
            days = overDays;
            many = atOnce;
            count = 0;
            state = 0;
            serial++;
            if (notes == null) {
                notes = new int[NOTES];
            }
            for (int i = 0; i < clocks.length; i++) {
                if (clocks[i] != null && (bits >> i & 1) == 1 && count < numbers.length) {
                    join(i, clocks[i]);
                }
            }
        }

        private void join(int number, Clock c) {
            int slack = (c.left - 1) / DAY_MINUTES;
            numbers[count] = number;
            woundSlack[count] = c.works.run - 1;
            if (c.left < 1) {
                state = NONE;
            } else if (state != NONE) {
                state |= Math.min(slack, days) << 4 * count;
            }
            count++;
        }

        int windings() {
            int fewest = state == NONE ? NO_WAY : fewest(0, state);
            return fewest >= NO_WAY ? NONE : fewest;
        }

        int woundAt(int when) {
            if (windings() == NONE) {
                return NONE;
            }
            int now = state;
            int wound = 0;
            for (int time = 0; time <= when && time < days && now != NONE; time++) {
                wound = firstBest(time, now);
                now = stateBehind(time, now, wound);
            }
            return named(wound);
        }

        private int firstBest(int time, int now) {
            int fewest = fewest(time, now);
            for (int wound = 0; wound < 1 << count; wound++) {
                int next = stateBehind(time, now, wound);
                if (next != NONE && Integer.bitCount(wound) + fewest(time + 1, next) == fewest) {
                    return wound;
                }
            }
            return 0;
        }

        private int named(int wound) {
            int bits = 0;
            for (int i = 0; i < count && i < numbers.length; i++) {
                bits |= (wound >> i & 1) << numbers[i];
            }
            return bits;
        }

        private int fewest(int time, int now) {
            if (time >= days) {
                return 0;
            }
            int note = noteOf(time, now);
            if (notes[note] >> 6 != serial) {
                notes[note] = serial << 6 | tryAll(time, now);
            }
            return notes[note] & NO_WAY;
        }

        /** It and fewest() call one another a day later each time, so no deeper than there are days. */
        private int tryAll(int time, int now) {
            int best = NO_WAY;
            for (int wound = 0; wound < 1 << count; wound++) {
                int next = stateBehind(time, now, wound);
                if (next != NONE) {
                    best = Math.min(best, Integer.bitCount(wound) + fewest(time + 1, next));
                }
            }
            return best;
        }

        /** NONE if too many are wound, or one would stand at the next time. */
        private int stateBehind(int time, int now, int wound) {
            if (Integer.bitCount(wound) > many) {
                return NONE;
            }
            int next = 0;
            for (int i = 0; i < count && i < woundSlack.length; i++) {
                int slack = (wound >> i & 1) == 1 ? woundSlack[i] : now >> 4 * i & 15;
                if (slack < 1) {
                    return NONE;
                }
                next |= Math.min(slack - 1, days - time - 1) << 4 * i;
            }
            return next;
        }

        private int noteOf(int time, int now) {
            int daysLeft = days - time;
            if (daysLeft < 0 || daysLeft >= NOTES_FROM.length) {
                return 0;
            }
            int note = 0;
            for (int i = count - 1; i >= 0; i--) {
                note = note * (daysLeft + 1) + (now >> 4 * i & 15);
            }
            note += NOTES_FROM[daysLeft];
            return note >= 0 && note < notes.length ? note : 0;
        }
    }

    /** Errors as they were told; none is taken away, so that what was known once can be asked for later. */
    private static final class Readings {
        private static final int MOST = 100;
        private static final int LAST_BEYOND = 200000;

        private final int[] clockOf = new int[MOST];
        private final int[] minuteOf = new int[MOST];
        private final int[] errorOf = new int[MOST];
        private final int[] toldIn = new int[MOST];
        int count = 0;
        // The two latest readings as recalled last; m1 and e1 mean nothing if there was one alone.
        int recalled = 0;
        private int m1 = 0;
        private int e1 = 0;
        private int m2 = 0;
        private int e2 = 0;

        int add(int clock, int minute, int error, int now) {
            if (count >= MOST) {
                return -1;
            }
            clockOf[count] = clock;
            minuteOf[count] = minute;
            errorOf[count] = error;
            toldIn[count] = now;
            count++;
            return count;
        }

        void recall(int clock, int known) {
            recalled = 0;
            for (int i = 0; i < count && i < MOST; i++) {
                if (clockOf[i] == clock && toldIn[i] <= known) {
                    weigh(minuteOf[i], errorOf[i]);
                }
            }
        }

        private void weigh(int minute, int error) {
            if (recalled > 0 && minute == m2) {
                e2 = error;
            } else if (recalled == 0 || minute > m2) {
                m1 = m2;
                e1 = e2;
                m2 = minute;
                e2 = error;
                recalled = Math.min(2, recalled + 1);
            } else if (recalled == 1 || minute >= m1) {
                m1 = minute;
                e1 = error;
                recalled = 2;
            }
        }

        long errorAt(int minute) {
            if (recalled == 0) {
                return VOID;
            }
            if (recalled == 1 || m2 == m1) {
                return e2;
            }
            return e2 + Math.floorDiv((long) (e2 - e1) * (minute - m2), (long) (m2 - m1));
        }

        long rateReckoned() {
            if (recalled < 2 || m2 == m1) {
                return VOID;
            }
            return Math.floorDiv((e2 - e1) * 1000L, 60L * (m2 - m1));
        }

        private boolean isBeyond(int minute, int bound) {
            long error = errorAt(minute);
            return error > bound || error < -bound;
        }

        /** What is reckoned only rises or only falls, so halving finds the first MINUTE. */
        int firstBeyond(int bound) {
            if (recalled == 0 || !isBeyond(m2, bound) && !isBeyond(LAST_BEYOND, bound)) {
                return NONE;
            }
            if (isBeyond(m2, bound)) {
                return m2;
            }
            int within = m2;
            int beyond = LAST_BEYOND;
            for (int i = 0; i < 20 && beyond - within > 1; i++) {
                int middle = (within + beyond) / 2;
                if (isBeyond(middle, bound)) {
                    beyond = middle;
                } else {
                    within = middle;
                }
            }
            return beyond;
        }
    }

    /** The words of the law, as they were told. */
    private static final class Law {
        private static final int MOST = 40;

        private final int[] clockOf = new int[MOST];
        private final int[] fromOf = new int[MOST];
        private final int[] toldIn = new int[MOST];
        int count = 0;

        int add(int clock, int from, int now) {
            if (count >= MOST) {
                return -1;
            }
            clockOf[count] = clock;
            fromOf[count] = from;
            toldIn[count] = now;
            count++;
            return count;
        }

        int clockAt(int minute, int known) {
            int clock = NONE;
            int latest = 0;
            for (int i = 0; i < count && i < MOST; i++) {
                if (toldIn[i] <= known && fromOf[i] <= minute && fromOf[i] >= latest) {
                    latest = fromOf[i];
                    clock = clockOf[i];
                }
            }
            return clock;
        }
    }
}
