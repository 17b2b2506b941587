import java.util.ArrayList;
import java.util.Arrays;
import java.util.HashMap;
import java.util.List;
import java.util.Map;
import java.util.TreeMap;
import java.util.function.IntPredicate;

/** The document told a second time, as plainly and as slowly as it can be. */
public final class Model {
    private static final int NONE = -1;
    private static final int NO = -2;

    private static final class Country {
        int from;
        int week;
        int rests;
        int leap;
        int in = -1;
        int adds;
        List<Integer> months = new ArrayList<>();
        /** The dates of its count from its first day on: year, month, day, weekday. */
        List<int[]> dates = new ArrayList<>();
        Map<List<Integer>, Integer> dayOf = new HashMap<>();

        int length(int month, int year) {
            return months.get(month) + (leap != 0 && year % leap == 0 && month == in ? adds : 0);
        }

        void count(int days) {
            int day = 0;
            for (int year = 0; day < days; year++) {
                for (int month = 0; month < months.size(); month++) {
                    for (int d = 0; d < length(month, year); d++) {
                        dates.add(new int[] {year, month, d, day % week});
                        dayOf.put(List.of(year, month, d), from + day);
                        day++;
                    }
                }
            }
        }

        int[] on(int day) {
            return day < from ? null : dates.get(day - from);
        }
    }

    private static final class State {
        int lines;
        int rain;
        List<Country> lands = new ArrayList<>();
        List<int[]> feasts = new ArrayList<>();
        List<int[]> truces = new ArrayList<>();
        List<State> before = new ArrayList<>();

        State copy() {
            State c = new State();
            c.lines = lines;
            c.rain = rain;
            c.lands = lands;
            c.feasts = new ArrayList<>(feasts);
            c.truces = new ArrayList<>(truces);
            c.before = new ArrayList<>(before);
            return c;
        }
    }

    private State war = new State();
    private final State[] images = new State[3];
    private StringBuilder tape = new StringBuilder();
    private int fault = 0;
    private int place = NONE;
    private final long[][] rows = new long[4][];
    private final int[] widths = new int[4];

    // ---- text ----

    public int feed(int a, int b, int c, int d, int e) {
        if (tape.length() > 1180) {
            return NONE;
        }
        for (int v : new int[] {a, b, c, d, e}) {
            tape.append((char) (v >>> 24)).append((char) (v >>> 16 & 255)).append((char) (v >>> 8 & 255)).append((char) (v & 255));
        }
        return tape.length();
    }

    public int end(int n) {
        if (n < 0 || n > tape.length()) {
            return NONE;
        }
        tape.setLength(n);
        return n;
    }

    private static final class Wrong extends RuntimeException {
        private static final long serialVersionUID = 1L;
        final int kind;
        final int at;

        Wrong(int kind, int at) {
            this.kind = kind;
            this.at = at;
        }
    }

    private static final class Text {
        final String all;
        int at = 0;
        int tokenAt;

        Text(String all) {
            this.all = all;
        }

        /** The next token, "" at the end. */
        String peek() {
            int p = at;
            while (p < all.length() && (all.charAt(p) == ' ' || all.charAt(p) == '\n')) {
                p++;
            }
            tokenAt = p;
            int q = p;
            while (q < all.length() && all.substring(p, q + 1).matches("[a-z]+|[0-9]+")) {
                q++;
            }
            if (q == p && q < all.length()) {
                q++;
            }
            return all.substring(p, q);
        }

        String next() {
            String token = peek();
            at = tokenAt + token.length();
            return token;
        }

        void word(String word) {
            if (!next().equals(word)) {
                throw new Wrong(1, tokenAt);
            }
        }

        int number(int least, int most) {
            String token = next();
            if (!token.matches("[0-9]+")) {
                throw new Wrong(1, tokenAt);
            }
            String plain = token.replaceFirst("^0+(?=.)", "");
            int v = plain.length() > 6 ? 999999 : Integer.parseInt(plain);
            if (v < least || v > most) {
                throw new Wrong(2, tokenAt);
            }
            return v;
        }
    }

    private static State parse(String all) {
        State s = new State();
        Text t = new Text(all);
        while (!t.peek().isEmpty()) {
            String word = t.next();
            int at = t.tokenAt;
            if (word.equals("war") != (s.lines == 0)) {
                throw new Wrong(1, at);
            }
            switch (word) {
                case "war":
                    t.word("rain");
                    s.rain = t.number(0, 100);
                    break;
                case "land":
                    if (s.lands.size() == 3) {
                        throw new Wrong(3, at);
                    }
                    s.lands.add(parseLand(t));
                    break;
                case "feast":
                    if (s.feasts.size() == 12) {
                        throw new Wrong(3, at);
                    }
                    int l = t.number(0, s.lands.size() - 1);
                    int m = t.number(0, s.lands.get(l).months.size() - 1);
                    int d = t.number(0, s.lands.get(l).months.get(m) - 1);
                    t.word("for");
                    s.feasts.add(new int[] {l, m, d, t.number(1, 9)});
                    break;
                case "truce":
                    if (s.truces.size() == 12) {
                        throw new Wrong(3, at);
                    }
                    int whose = t.number(0, s.lands.size() - 1);
                    t.word("from");
                    int from = t.number(0, 1999);
                    t.word("to");
                    s.truces.add(new int[] {whose, from, t.number(from, 1999)});
                    break;
                default:
                    throw new Wrong(1, at);
            }
            t.word(";");
            s.lines++;
        }
        return s;
    }

    private static Country parseLand(Text t) {
        Country c = new Country();
        t.word("from");
        c.from = t.number(0, 999);
        t.word("week");
        c.week = t.number(2, 10);
        t.word("rests");
        c.rests = t.number(0, 1022);
        boolean free = false;
        for (int bit = 0; bit < 10; bit++) {
            boolean rests = (c.rests >> bit & 1) == 1;
            if (bit >= c.week && rests) {
                throw new Wrong(2, t.tokenAt);
            }
            free |= bit < c.week && !rests;
        }
        if (!free) {
            throw new Wrong(2, t.tokenAt);
        }
        t.word("year");
        c.months.add(t.number(1, 60));
        while (t.peek().matches("[0-9]+")) {
            c.months.add(t.number(1, 60));
            if (c.months.size() == 9) {
                throw new Wrong(3, t.tokenAt);
            }
        }
        if (t.peek().equals("leap")) {
            t.next();
            c.leap = t.number(2, 9);
            t.word("in");
            c.in = t.number(0, c.months.size() - 1);
            t.word("adds");
            c.adds = t.number(1, 9);
        }
        c.count(2000);
        return c;
    }

    public int war() {
        fault = 0;
        place = NONE;
        try {
            war = parse(tape.toString());
            tape.setLength(0);
            return war.lines;
        } catch (Wrong w) {
            fault = w.kind;
            place = w.at;
            return -4;
        }
    }

    public int fault(int what) {
        return what == 0 ? fault : what == 1 ? place : NONE;
    }

    public int land(int land, int what) {
        if (!isLand(land) || what < 0 || what > 6) {
            return NO;
        }
        Country c = war.lands.get(land);
        return new int[] {c.from, c.week, c.rests, c.months.size(), c.leap, c.in, c.adds}[what];
    }

    public int month(int land, int month, int year) {
        return isMonth(land, month) && isDay(year) ? war.lands.get(land).length(month, year) : NO;
    }

    public int feast(int feast, int what) {
        return in(feast, war.feasts.size()) && in(what, 4) ? war.feasts.get(feast)[what] : NO;
    }

    public int truce(int truce, int what) {
        return in(truce, war.truces.size()) && in(what, 3) ? war.truces.get(truce)[what] : NO;
    }

    // ---- dates ----

    private static boolean in(int v, int size) {
        return v >= 0 && v < size;
    }

    private static boolean isDay(int day) {
        return in(day, 2000);
    }

    private boolean isLand(int land) {
        return in(land, war.lands.size());
    }

    private boolean isMonth(int land, int month) {
        return isLand(land) && in(month, war.lands.get(land).months.size());
    }

    private static boolean isSpan(int from, int to) {
        return isDay(from) && isDay(to) && from <= to;
    }

    private boolean isWar() {
        return war.lines != 0;
    }

    private boolean isSet(int set) {
        return isWar() && in(set, 1 << war.lands.size());
    }

    private boolean isPair(int a, int b) {
        return isLand(a) && isLand(b) && a != b;
    }

    public int date(int land, int day, int what) {
        if (!isLand(land) || !isDay(day) || !in(what, 4)) {
            return NO;
        }
        int[] date = war.lands.get(land).on(day);
        return date == null ? NONE : date[what];
    }

    public int day(int land, int year, int month, int day) {
        if (!isMonth(land, month) || !isDay(year) || !in(day, war.lands.get(land).length(month, year))) {
            return NO;
        }
        Integer found = war.lands.get(land).dayOf.get(List.of(year, month, day));
        return found == null || found > 1999 ? NONE : found;
    }

    public int why(int land, int day) {
        if (!isLand(land) || !isDay(day)) {
            return NO;
        }
        Country c = war.lands.get(land);
        int[] date = c.on(day);
        if (date == null) {
            return 1;
        }
        if ((c.rests >> date[3] & 1) == 1) {
            return 2;
        }
        for (int[] feast : war.feasts) {
            for (int back = 0; feast[0] == land && back < feast[3]; back++) {
                int[] begun = day - back < 0 ? null : c.on(day - back);
                if (begun != null && begun[1] == feast[1] && begun[2] == feast[2]) {
                    return 3;
                }
            }
        }
        for (int[] truce : war.truces) {
            if (truce[0] == land && truce[1] <= day && day <= truce[2]) {
                return 4;
            }
        }
        return 0;
    }

    public int may(int land, int day) {
        int why = why(land, day);
        return why < 0 ? why : why == 0 ? 1 : 0;
    }

    private boolean fights(int land, int day) {
        return why(land, day) == 0;
    }

    public int who(int day) {
        if (!isWar() || !isDay(day)) {
            return NO;
        }
        int set = 0;
        for (int land = 0; land < war.lands.size(); land++) {
            set += fights(land, day) ? 1 << land : 0;
        }
        return set;
    }

    private boolean all(int set, int day) {
        return (who(day) & set) == set;
    }

    private static int first(int from, IntPredicate wanted) {
        for (int d = from; d < 2000; d++) {
            if (wanted.test(d)) {
                return d;
            }
        }
        return NONE;
    }

    private static int number(int from, int to, IntPredicate wanted) {
        int n = 0;
        for (int d = from; d <= to && d < 2000; d++) {
            n += wanted.test(d) ? 1 : 0;
        }
        return n;
    }

    public int next(int set, int day) {
        return isSet(set) && isDay(day) ? first(day, d -> all(set, d)) : NO;
    }

    public int many(int set, int from, int to) {
        return isSet(set) && isSpan(from, to) ? number(from, to, d -> all(set, d)) : NO;
    }

    /** The longest run of days that are not wanted when n of them may be left out: its length and start. */
    private static int[] run(int from, int to, int n, IntPredicate fights) {
        int[] best = {0, NONE};
        for (int start = from; start <= to; start++) {
            int spare = n;
            int d = start;
            while (d <= to && (!fights.test(d) || spare > 0)) {
                spare -= fights.test(d) ? 1 : 0;
                d++;
            }
            if (d - start > best[0]) {
                best = new int[] {d - start, start};
            }
        }
        return best;
    }

    private boolean[] table(int set) {
        boolean[] t = new boolean[2000];
        for (int d = 0; d < 2000; d++) {
            t[d] = all(set, d);
        }
        return t;
    }

    public int waits(int set, int from, int to) {
        if (!isSet(set) || !isSpan(from, to)) {
            return NO;
        }
        boolean[] t = table(set);
        return run(from, to, 0, d -> t[d])[0];
    }

    public int waiting(int set, int from, int to) {
        if (!isSet(set) || !isSpan(from, to)) {
            return NO;
        }
        boolean[] t = table(set);
        return run(from, to, 0, d -> t[d])[1];
    }

    public int share(int set, int from, int to, int what) {
        int above = many(set, from, to);
        if (above < 0 || !in(what, 2)) {
            return NO;
        }
        int below = to - from + 1;
        for (int by = below; by > 1; by--) {
            if (above % by == 0 && below % by == 0) {
                above /= by;
                below /= by;
            }
        }
        return what == 0 ? above : below;
    }

    public int meets(int land, int weekday, int other, int weekly, int day) {
        if (!isPair(land, other) || !isDay(day)) {
            return NO;
        }
        if (!in(weekday, war.lands.get(land).week) || !in(weekly, war.lands.get(other).week)) {
            return NO;
        }
        return first(day, d -> date(land, d, 3) == weekday && date(other, d, 3) == weekly);
    }

    public int period(int land) {
        if (!isLand(land)) {
            return NO;
        }
        Country c = war.lands.get(land);
        // two turns of leap and week, walked; a period is tried on whole years only, as only those can be one
        int days = 0;
        for (int year = 1; ; year++) {
            for (int m = 0; m < c.months.size(); m++) {
                days += c.length(m, year - 1);
            }
            if (days % c.week == 0 && (c.leap == 0 || year % c.leap == 0)) {
                return days;
            }
        }
    }

    public int alike(int land, int other, int day) {
        if (!isPair(land, other) || !isDay(day)) {
            return NO;
        }
        return first(day, d -> date(land, d, 1) >= 0 && date(land, d, 1) == date(other, d, 1) && date(land, d, 2) == date(other, d, 2));
    }

    public int years(int day) {
        if (!isWar() || !isDay(day)) {
            return NO;
        }
        int set = 0;
        for (int l = 0; l < war.lands.size(); l++) {
            set += date(l, day, 1) == 0 && date(l, day, 2) == 0 ? 1 << l : 0;
        }
        return set;
    }

    public int comes(int land, int day) {
        if (!isLand(land) || !isDay(day)) {
            return NO;
        }
        if (date(land, day, 0) < 0) {
            return NONE;
        }
        return first(day + 1, d -> date(land, d, 1) == date(land, day, 1) && date(land, d, 2) == date(land, day, 2)
            && date(land, d, 3) == date(land, day, 3));
    }

    // ---- saints, bridges ----

    /** The days of the month that want a saint, or null. */
    private boolean[] wanting(int land, int month, int year, int years, int n) {
        if (!isMonth(land, month) || !isDay(year) || years < 1 || years > 20 || n < 1 || n > 9) {
            return null;
        }
        Country c = war.lands.get(land);
        boolean[] open = new boolean[80];
        for (int day = 0; day < 2000; day++) {
            int[] date = c.on(day);
            if (date != null && date[1] == month && date[0] >= year && date[0] < year + years && fights(land, day)) {
                open[date[2]] = true;
            }
        }
        return open;
    }

    public int saints(int land, int month, int year, int years, int n) {
        boolean[] open = wanting(land, month, year, years, n);
        if (open == null) {
            return NO;
        }
        // least[d]: the fewest that cover all open days below d, a start at a time
        int length = war.lands.get(land).months.get(month);
        int[] least = new int[open.length + 1];
        for (int d = 1; d <= open.length; d++) {
            least[d] = open[d - 1] ? 1000 : least[d - 1];
            for (int start = Math.max(0, d - n); start < d && start < length; start++) {
                least[d] = Math.min(least[d], least[start] + 1);
            }
        }
        int fewest = least[open.length];
        // days that are not open behind the last open one were covered at no cost above
        return fewest >= 1000 ? NONE : fewest;
    }

    public long founded(int land, int month, int year, int years, int n) {
        boolean[] open = wanting(land, month, year, years, n);
        if (open == null) {
            return NO;
        }
        int last = war.lands.get(land).months.get(month) - 1;
        long bits = 0;
        for (int d = 0; d < open.length; d++) {
            if (open[d]) {
                int start = d <= last ? d : last;
                bits |= 1L << start;
                for (int k = start; k < start + n && k < open.length; k++) {
                    open[k] = false;
                }
                if (open[d]) {
                    return NONE;
                }
            }
        }
        return bits;
    }

    private int[] bridging(int land, int from, int to, int n) {
        if (!isLand(land) || !isSpan(from, to) || n < 0 || n > 9) {
            return new int[] {NO, NO};
        }
        boolean[] t = table(1 << land);
        return run(from, to, n, d -> t[d]);
    }

    public int bridge(int land, int from, int to, int n) {
        return bridging(land, from, to, n)[0];
    }

    public int bridged(int land, int from, int to, int n) {
        return bridging(land, from, to, n)[1];
    }

    // ---- orders, seen ----

    /** The days of the orders; null with why[0] set when refused. */
    private int[] orderDays(int slot, int[] why) {
        why[0] = NO;
        if (!in(slot, 4) || !isWar()) {
            return null;
        }
        if (rows[slot] == null) {
            why[0] = -6;
            return null;
        }
        long[] row = rows[slot];
        if (row.length % 4 != 0) {
            return null;
        }
        int[] days = new int[row.length / 4];
        for (int i = 0; i < days.length; i++) {
            for (int k = 0; k < 4; k++) {
                if (row[4 * i + k] != (int) row[4 * i + k]) {
                    return null;
                }
            }
            days[i] = day((int) row[4 * i], (int) row[4 * i + 1], (int) row[4 * i + 2], (int) row[4 * i + 3]);
            if (days[i] < 0) {
                return null;
            }
        }
        return days;
    }

    public int oldest(int slot) {
        int[] why = {0};
        int[] days = orderDays(slot, why);
        if (days == null) {
            return why[0];
        }
        int low = Arrays.stream(days).min().orElse(NONE);
        for (int i = 0; i < days.length; i++) {
            if (days[i] == low) {
                return i;
            }
        }
        return NONE;
    }

    public int older(int slot, int i) {
        int[] why = {0};
        int[] days = orderDays(slot, why);
        if (days == null) {
            return why[0];
        }
        return in(i, days.length) ? (int) Arrays.stream(days).filter(d -> d < days[i]).count() : NONE;
    }

    public int apart(int slot) {
        int[] why = {0};
        int[] days = orderDays(slot, why);
        if (days == null) {
            return why[0];
        }
        return days.length == 0 ? NONE : Arrays.stream(days).max().getAsInt() - Arrays.stream(days).min().getAsInt();
    }

    public int idle(int slot) {
        int[] why = {0};
        int[] days = orderDays(slot, why);
        if (days == null) {
            return why[0];
        }
        int n = 0;
        for (int i = 0; i < days.length; i++) {
            n += fights((int) rows[slot][4 * i], days[i]) ? 0 : 1;
        }
        return n;
    }

    private List<Integer> seen(int slot, int from, int to, int[] why) {
        why[0] = NO;
        if (!in(slot, 4) || !isWar() || !isSpan(from, to)) {
            return null;
        }
        if (rows[slot] == null) {
            why[0] = -6;
            return null;
        }
        long[] row = rows[slot];
        if (row.length % 3 != 0) {
            return null;
        }
        for (int i = 0; i < row.length; i += 3) {
            if (row[i] < 0 || row[i] >= war.lands.size() || row[i + 1] < 0 || row[i + 1] > 4) {
                return null;
            }
        }
        List<Integer> fit = new ArrayList<>();
        for (int d = from; d <= to; d++) {
            boolean ok = true;
            for (int i = 0; i < row.length; i += 3) {
                int l = (int) row[i];
                int[] date = war.lands.get(l).on(d);
                if (row[i + 1] == 4) {
                    ok &= row[i + 2] == (fights(l, d) ? 1 : 0);
                } else {
                    ok &= date != null && date[(int) row[i + 1]] == row[i + 2];
                }
            }
            if (ok) {
                fit.add(d);
            }
        }
        return fit;
    }

    public int fits(int slot, int from, int to) {
        int[] why = {0};
        List<Integer> fit = seen(slot, from, to, why);
        return fit == null ? why[0] : fit.size();
    }

    public int fit(int slot, int from, int to, int i) {
        int[] why = {0};
        List<Integer> fit = seen(slot, from, to, why);
        return fit == null ? why[0] : in(i, fit.size()) ? fit.get(i) : NONE;
    }

    public int sure(int slot, int from, int to, int what) {
        int[] why = {0};
        List<Integer> fit = seen(slot, from, to, why);
        if (!in(what, 2)) {
            return NO;
        }
        if (fit == null) {
            return why[0];
        }
        int set = 0;
        for (int l = 0; l < war.lands.size(); l++) {
            int land = l;
            long n = fit.stream().filter(d -> fights(land, d)).count();
            if (n > 0 && (what == 1 || n == fit.size())) {
                set |= 1 << l;
            }
        }
        return set;
    }

    /** The question and what it leaves. */
    private int[] question(int slot, int from, int to) {
        int[] why = {0};
        List<Integer> fit = seen(slot, from, to, why);
        if (fit == null) {
            return new int[] {why[0], why[0]};
        }
        int[] best = {NONE, fit.size()};
        for (int code = 0; code < 10 * war.lands.size(); code++) {
            int what = code % 10;
            if (what != 1 && what != 3 && what != 4) {
                continue;
            }
            Map<Integer, Integer> tally = new TreeMap<>();
            for (int d : fit) {
                tally.merge(what == 4 ? may(code / 10, d) : date(code / 10, d, what), 1, Integer::sum);
            }
            int worst = tally.values().stream().max(Integer::compare).orElse(0);
            if (worst < best[1]) {
                best = new int[] {code, worst};
            }
        }
        return best;
    }

    public int ask(int slot, int from, int to) {
        return question(slot, from, to)[0];
    }

    public int leaves(int slot, int from, int to) {
        return question(slot, from, to)[1];
    }

    // ---- truces, ages, marches ----

    public int holds(int day) {
        return isWar() && isDay(day) ? (int) war.truces.stream().filter(t -> t[1] <= day && t[2] >= day).count() : NO;
    }

    public int overlap(int n, int day) {
        return isWar() && isDay(day) && n > 0 ? first(day, d -> holds(d) >= n) : NO;
    }

    public int most() {
        if (!isWar()) {
            return NO;
        }
        int most = 0;
        for (int d = 0; d < 2000; d++) {
            most = Math.max(most, holds(d));
        }
        return most;
    }

    public int age(int land, int born, int day) {
        if (!isLand(land) || !isDay(born) || !isDay(day)) {
            return NO;
        }
        int[] birth = war.lands.get(land).on(born);
        if (born > day || birth == null) {
            return NONE;
        }
        int[] now = war.lands.get(land).on(day);
        boolean ahead = now[1] < birth[1] || now[1] == birth[1] && now[2] < birth[2];
        return now[0] - birth[0] - (ahead ? 1 : 0);
    }

    public int gains(int land, int other, int born, int day) {
        if (!isPair(land, other) || !isDay(born) || !isDay(day)) {
            return -2000;
        }
        int a = age(land, born, day);
        int b = age(other, born, day);
        return a < 0 || b < 0 ? -1000 : a - b;
    }

    public int march(int land, int day, int n) {
        if (!isLand(land) || !isDay(day) || n < 1) {
            return NO;
        }
        int steps = 0;
        for (int d = day; d < 2000; d++) {
            if (fights(land, d) && ++steps == n) {
                return d;
            }
        }
        return NONE;
    }

    /** The day and the first land's steps when n steps are done, one step behind the other. */
    private int[] clashing(int land, int other, int day, int n) {
        if (!isPair(land, other) || !isDay(day) || n < 1) {
            return new int[] {NO, NO};
        }
        int steps = 0;
        int own = 0;
        for (int d = day; d < 2000; d++) {
            for (int l = 0; l < 3; l++) {
                if ((l == land || l == other) && fights(l, d)) {
                    steps++;
                    own += l == land ? 1 : 0;
                    if (steps == n) {
                        return new int[] {d, own};
                    }
                }
            }
        }
        return new int[] {NONE, NONE};
    }

    public int clash(int land, int other, int day, int n) {
        return clashing(land, other, day, n)[0];
    }

    public int place(int land, int other, int day, int n) {
        return clashing(land, other, day, n)[1];
    }

    public int alone(int land, int other, int from, int to) {
        return isPair(land, other) && isSpan(from, to) ? number(from, to, d -> fights(land, d) && !fights(other, d)) : NO;
    }

    private int[] beginning(int land, int other, int from, int to, int n) {
        if (!isPair(land, other) || !isSpan(from, to) || n < 1 || n > 200) {
            return new int[] {NO, NO};
        }
        boolean[] t = table(1 << land);
        boolean[] u = table(1 << other);
        int[] best = {NONE, NONE};
        for (int start = from; start <= to; start++) {
            int days = number(start, start + n - 1, d -> t[d] && !u[d]);
            if (days > best[1]) {
                best = new int[] {start, days};
            }
        }
        return best;
    }

    public int begin(int land, int other, int from, int to, int n) {
        return beginning(land, other, from, to, n)[0];
    }

    public int begins(int land, int other, int from, int to, int n) {
        return beginning(land, other, from, to, n)[1];
    }

    /** Winner and take from a point of a day on: sub 0 before the lesser land's turn, 1 before the greater's. */
    private int[] play(int low, int high, int day, int sub, int n, Map<List<Integer>, int[]> known) {
        int d = day;
        int s = sub;
        while (d < 2000 && !fights(s == 0 ? low : high, d)) {
            d += s;
            s = 1 - s;
        }
        if (d >= 2000) {
            return new int[] {NONE, 0};
        }
        List<Integer> key = List.of(d, s, n);
        if (known.containsKey(key)) {
            return known.get(key);
        }
        int mover = s == 0 ? low : high;
        int[] best = null;
        for (int take = 1; take <= 2 && take <= n; take++) {
            int winner = take == n ? mover : play(low, high, d + s, 1 - s, n - take, known)[0];
            if (best == null || rank(winner, mover) > rank(best[0], mover)) {
                best = new int[] {winner, take};
            }
        }
        known.put(key, best);
        return best;
    }

    private static int rank(int winner, int mover) {
        return winner == mover ? 1 : winner == NONE ? 0 : -1;
    }

    private int[] playing(int land, int other, int day, int n) {
        if (!isPair(land, other) || !isDay(day) || n < 1 || n > 40) {
            return new int[] {NO, NO};
        }
        return play(Math.min(land, other), Math.max(land, other), day, 0, n, new HashMap<>());
    }

    public int game(int land, int other, int day, int n) {
        return playing(land, other, day, n)[0];
    }

    public int takes(int land, int other, int day, int n) {
        return playing(land, other, day, n)[1];
    }

    // ---- changes ----

    private void change() {
        State old = war;
        war = old.copy();
        war.before.add(old);
    }

    public int found(int land, int month, int day, int n) {
        if (!isMonth(land, month) || !in(day, war.lands.get(land).months.get(month)) || n < 1 || n > 9) {
            return NO;
        }
        if (war.feasts.size() == 12 || war.before.size() == 60) {
            return -3;
        }
        change();
        war.feasts.add(new int[] {land, month, day, n});
        return war.feasts.size() - 1;
    }

    public int grant(int land, int from, int to) {
        if (!isLand(land) || !isSpan(from, to)) {
            return NO;
        }
        if (war.truces.size() == 12 || war.before.size() == 60) {
            return -3;
        }
        change();
        war.truces.add(new int[] {land, from, to});
        return war.truces.size() - 1;
    }

    public int ends(int land) {
        if (!isLand(land)) {
            return NO;
        }
        for (int f = war.feasts.size() - 1; f >= 0; f--) {
            if (war.feasts.get(f)[0] == land) {
                if (war.before.size() == 60) {
                    return -3;
                }
                change();
                war.feasts.remove(f);
                return f;
            }
        }
        return -5;
    }

    public int undo() {
        if (!isWar()) {
            return NO;
        }
        if (war.before.isEmpty()) {
            return -5;
        }
        war = war.before.get(war.before.size() - 1);
        return war.before.size();
    }

    // ---- rain ----

    private boolean[] rain(long seed, int n) {
        boolean[] wet = new boolean[n];
        long x = seed;
        for (int i = 0; i < n; i++) {
            x = Math.floorMod(Math.multiplyExact(1103515245L, x) + 12345L, 2147483648L);
            wet[i] = Math.floorDiv(x, 65536L) % 100 < war.rain;
        }
        return wet;
    }

    public int drawn(int seed, int day, int n, int what) {
        if (!isWar() || seed < 0 || seed > 2000000000 || !isDay(day) || n < 1 || n > 100 || !in(what, 2)) {
            return NO;
        }
        boolean[] wet = rain(seed, n);
        int every = (1 << war.lands.size()) - 1;
        return number(day, day + n - 1, d -> what == 0 ? wet[d - day] : !wet[d - day] && all(every, d));
    }

    public int luck(int seed, int m, int land, int day, int n) {
        if (!isLand(land) || seed < 0 || seed > 2000000000 || !isDay(day) || n < 1 || n > 100 || m < 1 || m > 20) {
            return NO;
        }
        int lucky = 0;
        for (int k = 0; k < m; k++) {
            boolean[] wet = rain((long) seed + k, n);
            lucky += number(day, day + n - 1, d -> !wet[d - day] && fights(land, d)) == 0 ? 1 : 0;
        }
        return lucky;
    }

    // ---- the object ----

    public int count(int what) {
        int made = 0;
        for (long[] row : rows) {
            made += row == null ? 0 : 1;
        }
        int[] all = {war.lands.size(), war.feasts.size(), war.truces.size(), war.rain, war.lines, tape.length(), war.before.size(), made};
        return in(what, 8) ? all[what] : NONE;
    }

    public int image(int k) {
        if (!in(k, 3)) {
            return NO;
        }
        images[k] = war;
        return 0;
    }

    public int back(int k) {
        if (!in(k, 3)) {
            return NO;
        }
        if (images[k] == null) {
            return -6;
        }
        war = images[k];
        return 0;
    }

    public int row(int slot, int width, int n) {
        if (!in(slot, 4) || !in(width, 4) || n > 60) {
            return NO;
        }
        if (n < 0) {
            return -3;
        }
        rows[slot] = new long[n];
        widths[slot] = width;
        return 0;
    }

    public int write(int slot, int i, long v) {
        if (!in(slot, 4)) {
            return NO;
        }
        if (rows[slot] == null) {
            return -6;
        }
        if (!in(i, rows[slot].length)) {
            return -7;
        }
        int away = 64 - (8 << widths[slot]);
        rows[slot][i] = v << away >> away;
        return 0;
    }

    public int paste(int slot, int i, int to, int k, int n) {
        if (!in(slot, 4) || !in(to, 4)) {
            return NO;
        }
        if (rows[slot] == null || rows[to] == null) {
            return -6;
        }
        if (widths[slot] != widths[to]) {
            return -8;
        }
        if (i < 0 || k < 0 || n < 0 || (long) i + n > rows[slot].length || (long) k + n > rows[to].length) {
            return -7;
        }
        long[] were = Arrays.copyOfRange(rows[slot], i, i + n);
        for (int j = 0; j < n; j++) {
            rows[to][k + j] = were[j];
        }
        return 0;
    }
}
