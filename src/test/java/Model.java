import java.util.ArrayList;
import java.util.List;
import java.util.NoSuchElementException;
import java.util.TreeMap;
import java.util.TreeSet;

/** The document once more, in its plainest form and without a thought of speed: what ClockKeeper is measured by. */
final class Model {
    static final int NONE = -1;
    static final int VOID = -2000000000;
    static final long Q = 900_000_000L;
    static final long D = 96 * Q;
    static final int[] DAYS = {31, 28, 31, 30, 31, 30, 31, 31, 30, 31, 30, 31};

    interface E {
        int value(int hour, int date, int month);
    }

    static final class Fault extends RuntimeException {
        final int kind;
        final int place;

        Fault(int kind, int place) {
            this.kind = kind;
            this.place = place;
        }
    }

    static final class Works {
        int run = 8, base, warm, wear, pull, penny = 4, strokes = 400, reach = 30, from, to;
        boolean stopped;
        int[] quarters = new int[4];
        List<Integer> wheel = null;
        E rack = (h, d, m) -> (h + 11) % 12 + 1;
        String calendar = "plain";
    }

    /** Tokens first, then the grammar over them. */
    static final class Parser {
        final List<String> tokens = new ArrayList<>();
        final List<Integer> places = new ArrayList<>();
        int at = 0;
        int open = 0;

        Parser(String text) {
            int i = 0;
            while (i < text.length()) {
                char c = text.charAt(i);
                if (c == ' ') {
                    i++;
                    continue;
                }
                int from = i;
                if (Character.toString(c).matches("[a-z]")) {
                    while (i < text.length() && text.charAt(i) >= 'a' && text.charAt(i) <= 'z') {
                        i++;
                    }
                } else if (Character.toString(c).matches("[0-9]")) {
                    while (i < text.length() && text.charAt(i) >= '0' && text.charAt(i) <= '9') {
                        i++;
                    }
                } else {
                    i++;
                }
                tokens.add(text.substring(from, i));
                places.add(from);
            }
            tokens.add("");
            places.add(text.length());
        }

        String peek() {
            return tokens.get(at);
        }

        Fault here(int kind) {
            return new Fault(kind, places.get(at));
        }

        String oneOf(String... fit) {
            for (String f : fit) {
                if (f.equals(peek())) {
                    at++;
                    return f;
                }
            }
            throw here(1);
        }

        boolean isNumber() {
            return peek().matches("[0-9]+");
        }

        int number(int least, int most) {
            if (!isNumber()) {
                throw here(1);
            }
            java.math.BigInteger n = new java.math.BigInteger(peek());
            if (n.compareTo(java.math.BigInteger.valueOf(least)) < 0 || n.compareTo(java.math.BigInteger.valueOf(most)) > 0) {
                throw here(2);
            }
            at++;
            return n.intValue();
        }

        int v() {
            if (peek().equals("-")) {
                at++;
                return -number(0, 500);
            }
            return number(0, 500);
        }

        Works all() {
            Works w = new Works();
            int parts = 0;
            while (!peek().isEmpty()) {
                int first = at;
                String kind = oneOf("run", "base", "warm", "wear", "pull", "penny", "strike", "strokes", "quarters", "silent",
                    "calendar", "reach");
                if (parts == 16) {
                    at = first;
                    throw here(3);
                }
                part(w, kind);
                oneOf(";");
                parts++;
            }
            return w;
        }

        void part(Works w, String kind) {
            switch (kind) {
                case "run" -> w.run = number(1, 31);
                case "base" -> w.base = v();
                case "warm" -> w.warm = v();
                case "wear" -> w.wear = number(0, 500);
                case "pull" -> w.pull = number(0, 500);
                case "penny" -> w.penny = number(0, 50);
                case "strokes" -> w.strokes = number(1, 2000);
                case "reach" -> w.reach = number(0, 200);
                case "quarters" -> {
                    for (int i = 0; i < 4; i++) {
                        w.quarters[i] = number(0, 16);
                    }
                }
                case "silent" -> {
                    w.from = number(0, 23);
                    oneOf("-");
                    w.to = number(0, 23);
                    w.stopped = oneOf("held", "stopped").equals("stopped");
                }
                case "calendar" -> w.calendar = oneOf("plain", "months", "leap");
                default -> strike(w);
            }
        }

        void strike(Works w) {
            if (oneOf("rack", "wheel").equals("rack")) {
                w.rack = e();
                w.wheel = null;
                return;
            }
            List<Integer> wheel = new ArrayList<>();
            wheel.add(number(0, 12));
            while (peek().equals(",")) {
                at++;
                int first = at;
                int n = number(0, 12);
                if (wheel.size() == 24) {
                    at = first;
                    throw here(3);
                }
                wheel.add(n);
            }
            w.wheel = wheel;
        }

        E e() {
            E left = t();
            while (peek().equals("+") || peek().equals("-")) {
                E a = left;
                boolean plus = oneOf("+", "-").equals("+");
                E b = t();
                left = (h, d, m) -> plus ? a.value(h, d, m) + b.value(h, d, m) : a.value(h, d, m) - b.value(h, d, m);
            }
            return left;
        }

        E t() {
            E left = u();
            while (peek().equals("*") || peek().equals("/") || peek().equals("%")) {
                E a = left;
                String op = oneOf("*", "/", "%");
                E b = u();
                left = (h, d, m) -> {
                    long x = a.value(h, d, m);
                    long y = b.value(h, d, m);
                    return op.equals("*") ? (int) (x * y) : y == 0 ? 0 : op.equals("/") ? (int) (x / y) : (int) (x % y);
                };
            }
            return left;
        }

        void bracket() {
            if (peek().equals("(") && open == 8) {
                throw here(3);
            }
            oneOf("(");
            open++;
        }

        E u() {
            if (isNumber()) {
                int n = number(0, 99);
                return (h, d, m) -> n;
            }
            if (peek().equals("(")) {
                bracket();
                E in = e();
                oneOf(")");
                open--;
                return in;
            }
            switch (oneOf("hour", "date", "month", "if")) {
                case "hour":
                    return (h, d, m) -> h;
                case "date":
                    return (h, d, m) -> d;
                case "month":
                    return (h, d, m) -> m;
                default:
            }
            bracket();
            E a = e();
            String r = oneOf("<", ">", "=");
            E b = e();
            oneOf(",");
            E yes = e();
            oneOf(",");
            E no = e();
            oneOf(")");
            open--;
            return (h, d, m) -> {
                int x = a.value(h, d, m);
                int y = b.value(h, d, m);
                boolean holds = r.equals("<") ? x < y : r.equals(">") ? x > y : x == y;
                return holds ? yes.value(h, d, m) : no.value(h, d, m);
            };
        }
    }

    static final class Sounding {
        int clock, second, chime, strike;
        boolean heard;
    }

    final class Clock implements Cloneable {
        int number, x, y, date, month, left, rings, place, pennies, oiled;
        Works w;
        long dial;

        Clock copy() {
            try {
                return (Clock) clone();
            } catch (CloneNotSupportedException e) {
                throw new Error(e);
            }
        }

        int rate(int m) {
            int hour = m / 60;
            int warmth = hour < warmths.size() ? warmths.get(hour) : 15;
            int tenths = 10 * (1440 * w.run - left) / (1440 * w.run);
            return w.base + w.warm * (warmth - 15) - w.wear * (m / 1440 - oiled) - w.pull * tenths + w.penny * pennies;
        }

        int last() {
            return switch (w.calendar) {
                case "plain" -> 31;
                case "months" -> DAYS[month - 1];
                default -> month == 2 && leap ? 29 : DAYS[month - 1];
            };
        }

        void midnight() {
            if (date >= last()) {
                date = 1;
                month = month == 12 ? 1 : month + 1;
            } else {
                date++;
            }
        }

        boolean silent(int hour) {
            for (int h = w.from; h != w.to; h = (h + 1) % 24) {
                if (h == hour) {
                    return true;
                }
            }
            return false;
        }

        int due(int hour) {
            return w.wheel != null ? w.wheel.get(place) : Math.max(0, Math.min(24, w.rack.value(hour, date, month)));
        }

        Sounding sound(long q) {
            int hour = (int) (q / (4 * Q) % 24);
            int quarter = (int) (q / Q % 4);
            Sounding s = new Sounding();
            s.clock = number;
            s.heard = !silent(hour);
            if (silent(hour) && w.stopped) {
                return s;
            }
            for (int i = 0; i < w.quarters[quarter == 0 ? 3 : quarter - 1]; i++) {
                if (rings > 0) {
                    rings--;
                    s.chime++;
                }
            }
            if (quarter == 0) {
                int due = due(hour);
                if (w.wheel != null && rings > 0) {
                    place = (place + 1) % w.wheel.size();
                }
                for (int i = 0; i < due; i++) {
                    if (rings > 0) {
                        rings--;
                        s.strike++;
                    }
                }
            }
            return s;
        }

        Sounding go(int m) {
            if (left == 0) {
                return null;
            }
            long a = dial;
            long b = a + Math.max(0, 60_000_000L + 60L * rate(m));
            left--;
            dial = b >= D ? b - D : b;
            for (long q = 0; q <= D + Q; q += Q) {
                if (a < q && q <= b) {
                    if (q == D) {
                        midnight();
                    }
                    Sounding s = sound(q);
                    s.second = 60 * m + (int) Math.min(59, 60 * (q - a) / (b - a));
                    return s.heard && s.chime + s.strike > 0 ? s : null;
                }
            }
            return null;
        }

        long error(int m) {
            long d = dial - m % 1440 * 60_000_000L;
            while (d < -D / 2) {
                d += D;
            }
            while (d >= D / 2) {
                d -= D;
            }
            return d / 1000;
        }

        boolean inStep(int from) {
            int next = (int) (dial / (4 * Q)) + 1;
            for (int h = next; h < next + 24; h++) {
                if (w.wheel.get((from + h - next) % w.wheel.size()) != (h % 24 + 11) % 12 + 1) {
                    return false;
                }
            }
            return true;
        }
    }

    int minute = 0;
    boolean leap = false;
    final List<Integer> warmths = new ArrayList<>();
    StringBuilder tape = new StringBuilder();
    final List<Clock> clocks = new ArrayList<>();
    int faultPlace = NONE;
    final List<Sounding> log = new ArrayList<>();
    int keeperX, keeperY;
    final List<int[]> readings = new ArrayList<>();
    final List<int[]> laws = new ArrayList<>();
    final TreeMap<Integer, Integer> kept = new TreeMap<>();

    static void arg(boolean ok) {
        if (!ok) {
            throw new IllegalArgumentException();
        }
    }

    static void place(int x, int y) {
        arg(x >= 0 && x < 100 && y >= 0 && y < 100);
    }

    Clock at(int clock) {
        if (clock < 0 || clock >= clocks.size()) {
            throw new NoSuchElementException();
        }
        return clocks.get(clock);
    }

    int warmth(int degrees) {
        arg(degrees >= -30 && degrees <= 50);
        if (warmths.size() == 1700) {
            return -1;
        }
        warmths.add(degrees);
        return warmths.size();
    }

    int leap(boolean is) {
        int was = leap ? 1 : 0;
        leap = is;
        return was;
    }

    int feed(int... numbers) {
        if (tape.length() > 380) {
            return NONE;
        }
        for (int n : numbers) {
            for (int i = 3; i >= 0; i--) {
                tape.append((char) (n >> 8 * i & 255));
            }
        }
        return tape.length();
    }

    /** Null with a fault in faultKind. */
    int faultKind;

    Works parse(int n) {
        String text = tape.substring(0, n);
        tape = new StringBuilder();
        faultPlace = NONE;
        faultKind = 0;
        try {
            return new Parser(text).all();
        } catch (Fault f) {
            faultPlace = f.place;
            faultKind = f.kind;
            return null;
        }
    }

    int clock(int x, int y, int n) {
        place(x, y);
        arg(n >= 0 && n <= tape.length());
        if (clocks.size() == 8) {
            tape = new StringBuilder();
            faultPlace = NONE;
            return -1;
        }
        Works w = parse(n);
        if (w == null) {
            return faultKind - 10;
        }
        Clock c = new Clock();
        c.number = clocks.size();
        c.x = x;
        c.y = y;
        c.w = w;
        c.date = trueDate()[0];
        c.month = trueDate()[1];
        c.left = 1440 * w.run;
        c.rings = w.strokes;
        c.oiled = minute / 1440;
        clocks.add(c);
        return c.number;
    }

    int[] trueDate() {
        int date = 1;
        int month = 1;
        for (int day = 0; day < minute / 1440; day++) {
            date++;
            if (date > (month == 2 && leap ? 29 : DAYS[month - 1])) {
                date = 1;
                month = month % 12 + 1;
            }
        }
        return new int[] {date, month};
    }

    int wait(int minutes) {
        arg(minutes >= 0 && minutes <= 10000);
        if (minute + minutes > 100000) {
            throw new IllegalStateException();
        }
        for (int i = 0; i < minutes; i++) {
            for (Clock c : clocks) {
                if (minute % 60 == 0) {
                    kept.put(c.number * 10000 + minute / 60, (int) (c.dial / 1000));
                }
                Sounding s = c.go(minute);
                if (s != null) {
                    log.add(s);
                }
            }
            minute++;
        }
        return minute;
    }

    int dial(int clock) {
        return (int) (at(clock).dial / 1000);
    }

    int error(int clock) {
        return (int) at(clock).error(minute);
    }

    int rate(int clock) {
        return at(clock).rate(minute);
    }

    int told(int clock, int what) {
        Clock c = at(clock);
        arg(what >= 0 && what <= 8);
        switch (what) {
            case 0:
                return c.left;
            case 1:
                return c.rings;
            case 2:
                return c.w.wheel == null ? NONE : c.place;
            case 3:
                return c.date;
            case 4:
                return c.month;
            case 5:
                return c.left == 0 ? 1 : 0;
            case 6:
                return c.date == trueDate()[0] && c.month == trueDate()[1] ? 1 : 0;
            case 7:
                return c.w.wheel == null ? NONE : c.inStep(c.place) ? 1 : 0;
            default:
                Clock then = c.copy();
                int hour = (int) (c.dial / (4 * Q) + 1) % 24;
                if (hour == 0) {
                    then.midnight();
                }
                return then.due(hour);
        }
    }

    int wind(int clock, int which) {
        Clock c = at(clock);
        arg(which == 0 || which == 1);
        int was = which == 0 ? c.left : c.rings;
        if (which == 0) {
            c.left = 1440 * c.w.run;
        } else {
            c.rings = c.w.strokes;
        }
        return was;
    }

    int oil(int clock) {
        Clock c = at(clock);
        int was = c.oiled;
        c.oiled = minute / 1440;
        return c.oiled - was;
    }

    int hands(int clock, int seconds, boolean let) {
        Clock c = at(clock);
        arg(seconds >= -43200 && seconds <= 43200);
        int hours = 0;
        long b = c.dial + seconds * 1_000_000L;
        for (long q = Q; q <= b; q += Q) {
            if (q > c.dial) {
                if (q % (4 * Q) == 0) {
                    hours++;
                }
                if (let) {
                    c.sound(q);
                }
            }
        }
        c.dial = ((b % D) + D) % D;
        return hours;
    }

    int date(int clock) {
        Clock c = at(clock);
        int was = told(clock, 6);
        c.date = trueDate()[0];
        c.month = trueDate()[1];
        return 1 - was;
    }

    int pennies(int clock, int pennies) {
        Clock c = at(clock);
        arg(pennies >= -20 && pennies <= 20);
        int was = c.pennies;
        c.pennies = pennies;
        return was;
    }

    int refit(int clock, int n) {
        Clock c = at(clock);
        arg(n >= 0 && n <= tape.length());
        Works w = parse(n);
        if (w == null) {
            return faultKind - 10;
        }
        c.w = w;
        c.left = Math.min(c.left, 1440 * w.run);
        c.rings = Math.min(c.rings, w.strokes);
        c.place = 0;
        return 1;
    }

    int trip(int clock, boolean on) {
        Clock c = at(clock);
        if (c.w.wheel == null) {
            return -1;
        }
        int size = c.w.wheel.size();
        if (!on) {
            c.place = (c.place + size - 1) % size;
            return c.place;
        }
        if (c.w.wheel.get(c.place) > c.rings) {
            return -2;
        }
        c.rings -= c.w.wheel.get(c.place);
        c.place = (c.place + 1) % size;
        return c.place;
    }

    int mend(int clock, int what) {
        Clock c = at(clock);
        arg(what >= 0 && what <= 2);
        if (c.w.wheel == null) {
            return NONE;
        }
        int size = c.w.wheel.size();
        int trips = 0;
        int taken = 0;
        while (trips < size && !c.inStep((c.place + trips) % size)) {
            taken += c.w.wheel.get((c.place + trips) % size);
            trips++;
        }
        if (trips == size) {
            return NONE;
        }
        int lifts = 0;
        while (!c.inStep((c.place + size - lifts) % size)) {
            lifts++;
        }
        int cost = taken <= c.rings ? trips + taken : 1000000;
        boolean lift = 10 * lifts < cost;
        int[] answers = {Math.min(cost, 10 * lifts), lift ? lifts : trips, lift ? 1 : 0};
        return answers[what];
    }

    List<Sounding> keptSoundings() {
        return log.subList(Math.max(0, log.size() - 200), log.size());
    }

    int sounding(int k, int what) {
        arg(what >= 0 && what <= 3);
        List<Sounding> all = keptSoundings();
        if (k < 0 || k >= all.size()) {
            return NONE;
        }
        Sounding s = all.get(all.size() - 1 - k);
        return new int[] {s.clock, s.second, s.chime, s.strike}[what];
    }

    int heard(int x, int y, int m, int what) {
        place(x, y);
        arg(m >= 0 && m <= 100000 && what >= 0 && what <= 2);
        List<int[]> strokes = new ArrayList<>();
        for (Sounding s : keptSoundings()) {
            Clock c = clocks.get(s.clock);
            int far = Math.abs(c.x - x) + Math.abs(c.y - y);
            for (int i = 0; far <= c.w.reach && i < s.chime + s.strike; i++) {
                int t = s.second + far / 10 + 2 * i;
                if (t >= 60 * m && t < 60 * m + 120) {
                    strokes.add(new int[] {t, s.clock});
                }
            }
        }
        strokes.sort((a, b) -> a[0] - b[0]);
        int count = 0;
        int bits = 0;
        for (int[] s : strokes) {
            if (count > 0 && s[0] - strokes.get(count - 1)[0] > 3) {
                break;
            }
            count++;
            bits |= 1 << s[1];
        }
        return what == 0 ? count : what == 2 ? bits : count == 0 ? 0 : (count + 11) % 12 + 1;
    }

    int witness(int x, int y, int hour, int k) {
        place(x, y);
        arg(hour >= 1 && hour <= 12);
        TreeSet<Integer> minutes = new TreeSet<>();
        for (Sounding s : keptSoundings()) {
            if (heard(x, y, s.second / 60, 1) == hour) {
                minutes.add(s.second / 60);
            }
        }
        List<Integer> latest = new ArrayList<>(minutes.descendingSet());
        return k < 0 || k >= latest.size() ? NONE : latest.get(k);
    }

    int keeper(int x, int y) {
        place(x, y);
        int far = Math.abs(x - keeperX) + Math.abs(y - keeperY);
        keeperX = x;
        keeperY = y;
        return far;
    }

    List<Integer> bits(int bits, int most) {
        arg(bits > 0 && bits < 1 << clocks.size() && Integer.bitCount(bits) <= most);
        List<Integer> numbers = new ArrayList<>();
        for (int i = 0; i < 8; i++) {
            if ((bits >> i & 1) == 1) {
                numbers.add(i);
            }
        }
        return numbers;
    }

    int round(int bits, int what) {
        List<Integer> numbers = bits(bits, 6);
        arg(what >= 0 && what < 2 + numbers.size());
        List<List<Integer>> orders = new ArrayList<>();
        orders(new ArrayList<>(), numbers, orders);
        List<Integer> best = null;
        int[] bestCost = null;
        for (List<Integer> order : orders) {
            int[] cost = walk(order);
            if (best == null || cost[0] < bestCost[0] || cost[0] == bestCost[0] && cost[1] < bestCost[1]) {
                best = order;
                bestCost = cost;
            }
        }
        return what < 2 ? bestCost[what] : best.get(what - 2);
    }

    void orders(List<Integer> begun, List<Integer> rest, List<List<Integer>> all) {
        if (rest.isEmpty()) {
            all.add(begun);
        }
        for (Integer n : rest) {
            List<Integer> more = new ArrayList<>(begun);
            List<Integer> less = new ArrayList<>(rest);
            more.add(n);
            less.remove(n);
            orders(more, less, all);
        }
    }

    int[] walk(List<Integer> order) {
        int x = keeperX;
        int y = keeperY;
        int stops = 0;
        int t = 0;
        for (int n : order) {
            Clock c = clocks.get(n);
            t += Math.abs(c.x - x) + Math.abs(c.y - y);
            x = c.x;
            y = c.y;
            int left = c.left < t ? 0 : c.left - t;
            if (left == 0) {
                stops++;
            }
            t += (int) Math.ceil((1440 * c.w.run - left) / 1440.0);
        }
        return new int[] {stops, t};
    }

    int plan(int bits, int days, int many, int what) {
        List<Integer> numbers = bits(bits, 4);
        arg(days >= 1 && days <= 10 && many >= 1 && many <= 2 && what >= 0 && what <= days);
        TreeMap<String, int[]> ways = new TreeMap<>();
        TreeMap<String, int[]> lefts = new TreeMap<>();
        int[] now = new int[numbers.size()];
        for (int i = 0; i < now.length; i++) {
            now[i] = clocks.get(numbers.get(i)).left;
            if (now[i] == 0) {
                return NONE;
            }
        }
        ways.put("", new int[0]);
        lefts.put("", now);
        for (int time = 0; time < days; time++) {
            TreeMap<String, int[]> nextWays = new TreeMap<>();
            TreeMap<String, int[]> nextLefts = new TreeMap<>();
            for (String state : ways.keySet()) {
                for (int wound = 0; wound < 1 << now.length; wound++) {
                    int[] left = lefts.get(state).clone();
                    boolean fine = Integer.bitCount(wound) <= many;
                    int named = 0;
                    for (int i = 0; i < left.length; i++) {
                        if ((wound >> i & 1) == 1) {
                            left[i] = 1440 * clocks.get(numbers.get(i)).w.run;
                            named |= 1 << numbers.get(i);
                        }
                        left[i] = Math.max(0, left[i] - 1440);
                        fine = fine && left[i] > 0;
                    }
                    if (fine) {
                        int[] way = java.util.Arrays.copyOf(ways.get(state), time + 1);
                        way[time] = named;
                        String key = java.util.Arrays.toString(left);
                        if (!nextWays.containsKey(key) || better(way, nextWays.get(key))) {
                            nextWays.put(key, way);
                            nextLefts.put(key, left);
                        }
                    }
                }
            }
            ways = nextWays;
            lefts = nextLefts;
        }
        int[] best = null;
        for (int[] way : ways.values()) {
            if (best == null || better(way, best)) {
                best = way;
            }
        }
        return best == null ? NONE : what == 0 ? windings(best) : best[what - 1];
    }

    static int windings(int[] way) {
        int all = 0;
        for (int w : way) {
            all += Integer.bitCount(w);
        }
        return all;
    }

    static boolean better(int[] a, int[] b) {
        return windings(a) != windings(b) ? windings(a) < windings(b) : java.util.Arrays.compare(a, b) < 0;
    }

    int read(int clock, int m, int error) {
        at(clock);
        arg(m >= 0 && m <= minute && error >= -100000000 && error <= 100000000);
        if (readings.size() == 100) {
            return -1;
        }
        readings.add(new int[] {clock, m, error, minute});
        return readings.size();
    }

    TreeMap<Integer, Integer> known(int clock, int known) {
        at(clock);
        TreeMap<Integer, Integer> all = new TreeMap<>();
        for (int[] r : readings) {
            if (r[0] == clock && r[3] <= known) {
                all.put(r[1], r[2]);
            }
        }
        return all;
    }

    static long reckon(TreeMap<Integer, Integer> all, int m) {
        if (all.isEmpty()) {
            return VOID;
        }
        int m2 = all.lastKey();
        long e2 = all.get(m2);
        if (all.size() == 1) {
            return e2;
        }
        int m1 = all.lowerKey(m2);
        return e2 + Math.floorDiv((e2 - all.get(m1)) * (m - m2), (long) (m2 - m1));
    }

    long reckoned(int clock, int m, int known) {
        TreeMap<Integer, Integer> all = known(clock, known);
        arg(m >= 0 && m <= 100000);
        return reckon(all, m);
    }

    long speed(int clock, int known) {
        TreeMap<Integer, Integer> all = known(clock, known);
        if (all.size() < 2) {
            return VOID;
        }
        int m2 = all.lastKey();
        int m1 = all.lowerKey(m2);
        return Math.floorDiv(((long) all.get(m2) - all.get(m1)) * 1000, 60L * (m2 - m1));
    }

    int regulated(int clock, int known) {
        if (known(clock, known).size() < 2) {
            return VOID;
        }
        long speed = speed(clock, known);
        int best = 21;
        long nearest = Long.MAX_VALUE;
        for (int p = 20; p >= -20; p--) {
            long off = Math.abs(speed + (long) at(clock).w.penny * (p - at(clock).pennies));
            if (off <= nearest) {
                nearest = off;
                best = p;
            }
        }
        return best;
    }

    int beyond(int clock, int bound, int known) {
        TreeMap<Integer, Integer> all = known(clock, known);
        arg(bound >= 0 && bound <= 100000000);
        if (!all.isEmpty()) {
            for (int m = all.lastKey(); m <= 200000; m++) {
                if (Math.abs(reckon(all, m)) > bound) {
                    return m;
                }
            }
        }
        return NONE;
    }

    int law(int clock, int from) {
        at(clock);
        arg(from >= 0 && from <= 100000);
        if (laws.size() == 40) {
            return -1;
        }
        laws.add(new int[] {clock, from, minute});
        return laws.size();
    }

    int lawful(int m, int known) {
        int[] best = null;
        for (int[] w : laws) {
            if (w[2] <= known && w[1] <= m && (best == null || w[1] >= best[1])) {
                best = w;
            }
        }
        return best == null ? NONE : best[0];
    }

    int kept(int clock, int hour) {
        at(clock);
        return hour < 0 || hour > 9999 ? NONE : kept.getOrDefault(clock * 10000 + hour, NONE);
    }

    int foretold(int clock, int minutes, int what) {
        Clock c = at(clock).copy();
        arg(minutes >= 1 && minutes <= 3000 && what >= 0 && what <= 6);
        if (minute + minutes > 100000) {
            throw new IllegalStateException();
        }
        int sounded = 0;
        int strokes = 0;
        for (int m = minute; m < minute + minutes; m++) {
            Sounding s = c.go(m);
            if (s != null) {
                sounded++;
                strokes += s.chime + s.strike;
            }
        }
        int place = c.w.wheel == null ? NONE : c.place;
        return new int[] {(int) c.error(minute + minutes), c.left, c.rings, place, c.date, sounded, strokes}[what];
    }

    int count(int what) {
        int[] all = {minute, clocks.size(), warmths.size(), readings.size(), laws.size(), log.size(), tape.length(),
            trueDate()[0], trueDate()[1]};
        return what < 0 || what >= all.length ? NONE : all[what];
    }
}
