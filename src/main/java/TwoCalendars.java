import java.util.Arrays;

/** A war of lands that each count their days in their own way. */
public final class TwoCalendars {
    public static final int NONE = -1;

    private static final int NO_SUCH = -2;
    private static final int NO_ROOM = -3;
    private static final int NEGATIVE_LENGTH = -3;
    private static final int FAULTY = -4;
    private static final int NOTHING_TO_END = -5;
    private static final int HAS_NOTHING = -6;
    private static final int OUT_OF_ROW = -7;
    private static final int UNLIKE_WIDTHS = -8;
    private static final int NO_AGE = -1000;
    private static final int NO_SUCH_AGES = -2000;

    private static final int DAYS = 2000;
    private static final int YEARS = 2000;
    private static final int LANDS = 3;
    private static final int MONTHS = 8;
    private static final int MONTH_DAYS = 60;
    private static final int MOST_ADDED = 9;
    private static final int FEASTS = 12;
    private static final int FEAST_PARTS = 4;
    private static final int FEAST_DAYS = 9;
    private static final int TRUCES = 12;
    private static final int TRUCE_PARTS = 3;
    private static final int CHANGES = 60;
    private static final int CHANGE_PARTS = 6;
    private static final int TAPE_BYTES = 1200;
    private static final int IMAGES = 3;
    private static final int SLOTS = 4;
    private static final int WIDTHS = 4;
    private static final int ROW_NUMBERS = 60;
    private static final int STONES = 40;
    private static final int LAST_SEED = 2000000000;

    private static final int YEAR = 0;
    private static final int MONTH = 1;
    private static final int DAY = 2;
    private static final int WEEKDAY = 3;
    private static final int MAY = 4;

    private final Tape tape = new Tape();
    private final Reader reader = new Reader();
    // war() reads into the spare one, so that a FAULT leaves the current one as it was
    private War current = new War();
    private War spare = new War();
    private final War[] images = new War[IMAGES];
    private final boolean[] imaged = new boolean[IMAGES];
    private final Row[] rows = new Row[SLOTS];
    private final Almanac almanac = new Almanac();
    private final Saints patrons = new Saints();
    private final Orders orders = new Orders();
    private final Seen sights = new Seen();
    private final Stones stones = new Stones();
    private int latestFault = 0;
    private int faultPlace = NONE;

    public TwoCalendars() {
        for (int k = 0; k < IMAGES; k++) {
            images[k] = new War();
        }
        for (int slot = 0; slot < SLOTS; slot++) {
            rows[slot] = new Row();
        }
    }

    // ---- the text of the war ----

    public int feed(int a, int b, int c, int d, int e) {
        if (tape.size + 20 > TAPE_BYTES) {
            return NONE;
        }
        tape.append(a);
        tape.append(b);
        tape.append(c);
        tape.append(d);
        tape.append(e);
        return tape.size;
    }

    public int end(int n) {
        if (n < 0 || n > tape.size) {
            return NONE;
        }
        tape.size = n;
        return n;
    }

    public int war() {
        reader.read(tape, spare);
        latestFault = reader.fault;
        faultPlace = reader.faultAt;
        if (latestFault != 0) {
            return FAULTY;
        }
        War old = current;
        current = spare;
        spare = old;
        tape.size = 0;
        almanac.forgetAll();
        return current.lines;
    }

    public int fault(int what) {
        if (what == 0) {
            return latestFault;
        }
        return what == 1 ? faultPlace : NONE;
    }

    public int land(int land, int what) {
        if (!current.hasLand(land)) {
            return NO_SUCH;
        }
        Land told = current.lands[land];
        switch (what) {
            case 0: return told.from;
            case 1: return told.week;
            case 2: return told.rests;
            case 3: return told.months;
            case 4: return told.leap;
            case 5: return told.longMonth;
            case 6: return told.adds;
            default: return NO_SUCH;
        }
    }

    public int month(int land, int month, int year) {
        if (!current.hasMonth(land, month) || !isYear(year)) {
            return NO_SUCH;
        }
        return current.lands[land].lengthIn(month, year);
    }

    public int feast(int feast, int what) {
        if (feast < 0 || feast >= current.feastCount || what < 0 || what >= FEAST_PARTS) {
            return NO_SUCH;
        }
        return current.feasts[feast * FEAST_PARTS + what];
    }

    public int truce(int truce, int what) {
        if (truce < 0 || truce >= current.truceCount || what < 0 || what >= TRUCE_PARTS) {
            return NO_SUCH;
        }
        return current.truces[truce * TRUCE_PARTS + what];
    }

    // ---- dates, and who may fight ----

    public int date(int land, int day, int what) {
        if (!isLandAndDay(land, day) || what < YEAR || what > WEEKDAY) {
            return NO_SUCH;
        }
        return told().part(land, day, what);
    }

    public int day(int land, int year, int month, int day) {
        return current.dayOfDate(land, year, month, day);
    }

    public int may(int land, int day) {
        if (!isLandAndDay(land, day)) {
            return NO_SUCH;
        }
        return told().part(land, day, MAY);
    }

    public int why(int land, int day) {
        if (!isLandAndDay(land, day)) {
            return NO_SUCH;
        }
        return told().reason(land, day);
    }

    public int who(int day) {
        if (!isDayOfWar(day)) {
            return NO_SUCH;
        }
        return told().fighters[day];
    }

    public int next(int set, int day) {
        if (!isSetInSpan(set, day, day)) {
            return NO_SUCH;
        }
        Almanac book = told();
        for (int d = day; d < DAYS; d++) {
            if (book.allFight(set, d)) {
                return d;
            }
        }
        return NONE;
    }

    public int many(int set, int from, int to) {
        if (!isSetInSpan(set, from, to)) {
            return NO_SUCH;
        }
        return told().fightingDays(set, from, to);
    }

    public int waits(int set, int from, int to) {
        if (!isSetInSpan(set, from, to)) {
            return NO_SUCH;
        }
        told().seekWait(set, from, to, 0);
        return almanac.waitLength;
    }

    public int waiting(int set, int from, int to) {
        if (!isSetInSpan(set, from, to)) {
            return NO_SUCH;
        }
        told().seekWait(set, from, to, 0);
        return almanac.waitStart;
    }

    public int share(int set, int from, int to, int what) {
        if (!isSetInSpan(set, from, to) || what < 0 || what > 1) {
            return NO_SUCH;
        }
        int above = told().fightingDays(set, from, to);
        int below = to - from + 1;
        int divisor = commonDivisor(above, below);
        return what == 0 ? above / divisor : below / divisor;
    }

    // ---- counts that meet ----

    public int meets(int land, int weekday, int other, int weekly, int day) {
        if (!isPairAndDay(land, other, day)) {
            return NO_SUCH;
        }
        if (!current.lands[land].hasWeekday(weekday) || !current.lands[other].hasWeekday(weekly)) {
            return NO_SUCH;
        }
        Almanac book = told();
        for (int d = day; d < DAYS; d++) {
            if (book.part(land, d, WEEKDAY) == weekday && book.part(other, d, WEEKDAY) == weekly) {
                return d;
            }
        }
        return NONE;
    }

    public int period(int land) {
        if (!current.hasLand(land)) {
            return NO_SUCH;
        }
        int cycle = current.lands[land].leapCycle();
        int week = current.lands[land].week;
        return cycle / commonDivisor(cycle, week) * week;
    }

    public int alike(int land, int other, int day) {
        if (!isPairAndDay(land, other, day)) {
            return NO_SUCH;
        }
        Almanac book = told();
        for (int d = day; d < DAYS; d++) {
            int monthDay = book.monthDay(land, d);
            if (monthDay != NONE && monthDay == book.monthDay(other, d)) {
                return d;
            }
        }
        return NONE;
    }

    public int years(int day) {
        if (!isDayOfWar(day)) {
            return NO_SUCH;
        }
        Almanac book = told();
        int set = 0;
        for (int land = 0; land < current.landCount; land++) {
            if (book.monthDay(land, day) == 0) {
                set |= 1 << land;
            }
        }
        return set;
    }

    public int comes(int land, int day) {
        if (!isLandAndDay(land, day)) {
            return NO_SUCH;
        }
        Almanac book = told();
        int monthDay = book.monthDay(land, day);
        if (monthDay == NONE) {
            return NONE;
        }
        int weekday = book.part(land, day, WEEKDAY);
        for (int d = day + 1; d < DAYS; d++) {
            if (book.monthDay(land, d) == monthDay && book.part(land, d, WEEKDAY) == weekday) {
                return d;
            }
        }
        return NONE;
    }

    // ---- feasts to be founded, bridges of rest ----

    public int saints(int land, int month, int year, int years, int n) {
        if (!isSaintly(land, month, year, years, n)) {
            return NO_SUCH;
        }
        patrons.seek(current.lands[land], told(), land, month, year, years, n);
        return patrons.fewest;
    }

    public long founded(int land, int month, int year, int years, int n) {
        if (!isSaintly(land, month, year, years, n)) {
            return NO_SUCH;
        }
        patrons.seek(current.lands[land], told(), land, month, year, years, n);
        return patrons.begun;
    }

    public int bridge(int land, int from, int to, int n) {
        if (!current.hasLand(land) || !isSpan(from, to) || n < 0 || n > 9) {
            return NO_SUCH;
        }
        told().seekWait(1 << land, from, to, n);
        return almanac.waitLength;
    }

    public int bridged(int land, int from, int to, int n) {
        if (!current.hasLand(land) || !isSpan(from, to) || n < 0 || n > 9) {
            return NO_SUCH;
        }
        told().seekWait(1 << land, from, to, n);
        return almanac.waitStart;
    }

    // ---- orders ----

    public int oldest(int slot) {
        int answer = readOrders(slot);
        return answer < 0 ? answer : orders.placeOfOldest();
    }

    public int older(int slot, int i) {
        int answer = readOrders(slot);
        if (answer < 0) {
            return answer;
        }
        return i < 0 || i >= orders.size ? NONE : orders.earlierThan(i);
    }

    public int apart(int slot) {
        int answer = readOrders(slot);
        return answer < 0 ? answer : orders.daysApart();
    }

    public int idle(int slot) {
        int answer = readOrders(slot);
        return answer < 0 ? answer : orders.datedAtRest(told());
    }

    // ---- what was seen ----

    public int fits(int slot, int from, int to) {
        int answer = readSights(slot, from, to);
        return answer < 0 ? answer : sights.size;
    }

    public int fit(int slot, int from, int to, int i) {
        int answer = readSights(slot, from, to);
        if (answer < 0) {
            return answer;
        }
        return i < 0 || i >= sights.size ? NONE : sights.days[i];
    }

    public int sure(int slot, int from, int to, int what) {
        if (what < 0 || what > 1) {
            return NO_SUCH;
        }
        int answer = readSights(slot, from, to);
        if (answer < 0) {
            return answer;
        }
        return what == 0 ? sights.fightersOnAll(told()) : sights.fightersOnSome(told());
    }

    public int ask(int slot, int from, int to) {
        int answer = readSights(slot, from, to);
        if (answer < 0) {
            return answer;
        }
        sights.seekQuestion(told(), current.landCount);
        return sights.question;
    }

    public int leaves(int slot, int from, int to) {
        int answer = readSights(slot, from, to);
        if (answer < 0) {
            return answer;
        }
        sights.seekQuestion(told(), current.landCount);
        return sights.left;
    }

    // ---- truces that overlap ----

    public int holds(int day) {
        return isDayOfWar(day) ? current.trucesOn(day) : NO_SUCH;
    }

    public int overlap(int n, int day) {
        if (n < 1 || !isDayOfWar(day)) {
            return NO_SUCH;
        }
        if (n > current.truceCount) {
            return NONE;
        }
        for (int d = day; d < DAYS; d++) {
            if (current.trucesOn(d) >= n) {
                return d;
            }
        }
        return NONE;
    }

    public int most() {
        if (current.lines == 0) {
            return NO_SUCH;
        }
        int highest = 0;
        // the number that holds rises only where a truce begins
        for (int truce = 0; truce < current.truceCount; truce++) {
            int begun = current.truces[truce * TRUCE_PARTS + 1];
            highest = Math.max(highest, current.trucesOn(begun));
        }
        return highest;
    }

    // ---- ages ----

    public int age(int land, int born, int day) {
        if (!isLandAndDay(land, born) || !isDay(day)) {
            return NO_SUCH;
        }
        return told().ageBy(land, born, day);
    }

    public int gains(int land, int other, int born, int day) {
        if (!isPairAndDay(land, other, born) || !isDay(day)) {
            return NO_SUCH_AGES;
        }
        int byLand = told().ageBy(land, born, day);
        int byOther = told().ageBy(other, born, day);
        return byLand == NONE || byOther == NONE ? NO_AGE : byLand - byOther;
    }

    // ---- marches ----

    public int march(int land, int day, int n) {
        if (!isLandAndDay(land, day) || n < 1) {
            return NO_SUCH;
        }
        Almanac book = told();
        int steps = 0;
        for (int d = day; d < DAYS; d++) {
            steps += book.part(land, d, MAY);
            if (steps == n) {
                return d;
            }
        }
        return NONE;
    }

    public int clash(int land, int other, int day, int n) {
        if (!isPairAndDay(land, other, day) || n < 1) {
            return NO_SUCH;
        }
        return told().clashDay(land, other, day, n);
    }

    public int place(int land, int other, int day, int n) {
        if (!isPairAndDay(land, other, day) || n < 1) {
            return NO_SUCH;
        }
        Almanac book = told();
        int last = book.clashDay(land, other, day, n);
        if (last == NONE) {
            return NONE;
        }
        int own = book.fightingDays(1 << land, day, last);
        int both = own + book.fightingDays(1 << other, day, last);
        // one step too many: the greater land's on the last day, on which both may
        return both > n && land > other ? own - 1 : own;
    }

    public int alone(int land, int other, int from, int to) {
        if (!isPair(land, other) || !isSpan(from, to)) {
            return NO_SUCH;
        }
        return told().daysAlone(land, other, from, to);
    }

    public int begin(int land, int other, int from, int to, int n) {
        if (!isPair(land, other) || !isSpan(from, to) || n < 1 || n > 200) {
            return NO_SUCH;
        }
        told().seekBeginning(land, other, from, to, n);
        return almanac.bestDay;
    }

    public int begins(int land, int other, int from, int to, int n) {
        if (!isPair(land, other) || !isSpan(from, to) || n < 1 || n > 200) {
            return NO_SUCH;
        }
        told().seekBeginning(land, other, from, to, n);
        return almanac.mostAlone;
    }

    public int game(int land, int other, int day, int n) {
        if (!isPairAndDay(land, other, day) || n < 1 || n > STONES) {
            return NO_SUCH;
        }
        stones.play(told(), Math.min(land, other), Math.max(land, other), day, n);
        return stones.winner;
    }

    public int takes(int land, int other, int day, int n) {
        if (!isPairAndDay(land, other, day) || n < 1 || n > STONES) {
            return NO_SUCH;
        }
        stones.play(told(), Math.min(land, other), Math.max(land, other), day, n);
        return stones.firstTake;
    }

    // ---- changes ----

    public int found(int land, int month, int day, int n) {
        if (!current.hasPlainDate(land, month, day) || n < 1 || n > FEAST_DAYS) {
            return NO_SUCH;
        }
        if (current.feastCount >= FEASTS || current.changeCount >= CHANGES) {
            return NO_ROOM;
        }
        current.insertFeast(current.feastCount, land, month, day, n);
        current.noteFounded();
        almanac.forgetReasons(land);
        return current.feastCount - 1;
    }

    public int grant(int land, int from, int to) {
        if (!current.hasLand(land) || !isSpan(from, to)) {
            return NO_SUCH;
        }
        if (current.truceCount >= TRUCES || current.changeCount >= CHANGES) {
            return NO_ROOM;
        }
        current.appendTruce(land, from, to);
        current.noteGranted();
        almanac.forgetReasons(land);
        return current.truceCount - 1;
    }

    public int ends(int land) {
        if (!current.hasLand(land)) {
            return NO_SUCH;
        }
        int feast = current.latestFeastOf(land);
        if (feast == NONE) {
            return NOTHING_TO_END;
        }
        if (current.changeCount >= CHANGES) {
            return NO_ROOM;
        }
        current.noteEnded(feast);
        current.removeFeast(feast);
        almanac.forgetReasons(land);
        return feast;
    }

    public int undo() {
        if (current.lines == 0) {
            return NO_SUCH;
        }
        if (current.changeCount == 0) {
            return NOTHING_TO_END;
        }
        almanac.forgetReasons(current.takeBackLatest());
        return current.changeCount;
    }

    // ---- rain ----

    public int drawn(int seed, int day, int n, int what) {
        if (current.lines == 0 || !isRain(seed, day, n) || what < 0 || what > 1) {
            return NO_SUCH;
        }
        int everyone = (1 << current.landCount) - 1;
        int last = Math.min(DAYS, day + n);
        Almanac book = told();
        long x = seed;
        int counted = 0;
        for (int d = day; d < last; d++) {
            x = nextDraw(x);
            boolean rains = isWet(x, current.rain);
            if (what == 0 ? rains : !rains && book.allFight(everyone, d)) {
                counted++;
            }
        }
        return counted;
    }

    public int luck(int seed, int m, int land, int day, int n) {
        if (!current.hasLand(land) || !isRain(seed, day, n) || m < 1 || m > 20) {
            return NO_SUCH;
        }
        Almanac book = told();
        int peaceful = 0;
        for (int i = 0; i < m; i++) {
            if (!fightsInRain(book, (long) seed + i, land, day, n)) {
                peaceful++;
            }
        }
        return peaceful;
    }

    // ---- the object itself ----

    public int count(int what) {
        switch (what) {
            case 0: return current.landCount;
            case 1: return current.feastCount;
            case 2: return current.truceCount;
            case 3: return current.rain;
            case 4: return current.lines;
            case 5: return tape.size;
            case 6: return current.changeCount;
            case 7: return slotsWithRow();
            default: return NONE;
        }
    }

    public int image(int k) {
        if (k < 0 || k >= IMAGES) {
            return NO_SUCH;
        }
        images[k].copyOf(current);
        imaged[k] = true;
        return 0;
    }

    public int back(int k) {
        if (k < 0 || k >= IMAGES) {
            return NO_SUCH;
        }
        if (!imaged[k]) {
            return HAS_NOTHING;
        }
        current.copyOf(images[k]);
        almanac.forgetAll();
        return 0;
    }

    public int row(int slot, int width, int n) {
        if (!isSlot(slot) || width < 0 || width >= WIDTHS || n > ROW_NUMBERS) {
            return NO_SUCH;
        }
        if (n < 0) {
            return NEGATIVE_LENGTH;
        }
        rows[slot].renew(width, n);
        return 0;
    }

    public int write(int slot, int i, long v) {
        if (!isSlot(slot)) {
            return NO_SUCH;
        }
        Row row = rows[slot];
        if (!row.made) {
            return HAS_NOTHING;
        }
        if (i < 0 || i >= row.size) {
            return OUT_OF_ROW;
        }
        row.numbers[i] = row.cut(v);
        return 0;
    }

    public int paste(int slot, int i, int to, int k, int n) {
        if (!isSlot(slot) || !isSlot(to)) {
            return NO_SUCH;
        }
        Row source = rows[slot];
        Row target = rows[to];
        if (!source.made || !target.made) {
            return HAS_NOTHING;
        }
        if (source.width != target.width) {
            return UNLIKE_WIDTHS;
        }
        if (!source.hasStretch(i, n) || !target.hasStretch(k, n)) {
            return OUT_OF_ROW;
        }
        System.arraycopy(source.numbers, i, target.numbers, k, n);
        return 0;
    }

    // ---- what the calls above ask ----

    private static boolean isDay(int day) {
        return day >= 0 && day < DAYS;
    }

    private static boolean isYear(int year) {
        return year >= 0 && year < YEARS;
    }

    private static boolean isSpan(int from, int to) {
        return isDay(from) && isDay(to) && from <= to;
    }

    private static boolean isSlot(int slot) {
        return slot >= 0 && slot < SLOTS;
    }

    private static boolean isRain(int seed, int day, int n) {
        return seed >= 0 && seed <= LAST_SEED && isDay(day) && n >= 1 && n <= 100;
    }

    private boolean isDayOfWar(int day) {
        return current.lines > 0 && isDay(day);
    }

    private boolean isLandAndDay(int land, int day) {
        return current.hasLand(land) && isDay(day);
    }

    private boolean isPair(int land, int other) {
        return current.hasLand(land) && current.hasLand(other) && land != other;
    }

    private boolean isPairAndDay(int land, int other, int day) {
        return isPair(land, other) && isDay(day);
    }

    private boolean isSetInSpan(int set, int from, int to) {
        return current.lines > 0 && set >= 0 && set < 1 << current.landCount && isSpan(from, to);
    }

    private boolean isSaintly(int land, int month, int year, int years, int n) {
        return current.hasMonth(land, month) && isYear(year)
            && years >= 1 && years <= 20 && n >= 1 && n <= FEAST_DAYS;
    }

    private static int commonDivisor(int a, int b) {
        int high = a;
        int low = b;
        for (int step = 0; step < 100 && low != 0; step++) {
            int rest = high % low;
            high = low;
            low = rest;
        }
        return high == 0 ? 1 : high;
    }

    private static long nextDraw(long x) {
        return (1103515245L * x + 12345L) % 2147483648L;
    }

    private static boolean isWet(long x, int rain) {
        return x / 65536L % 100L < rain;
    }

    private boolean fightsInRain(Almanac book, long seed, int land, int day, int n) {
        int last = Math.min(DAYS, day + n);
        long x = seed;
        for (int d = day; d < last; d++) {
            x = nextDraw(x);
            if (!isWet(x, current.rain) && book.part(land, d, MAY) == 1) {
                return true;
            }
        }
        return false;
    }

    private Almanac told() {
        almanac.bringUpToDate(current);
        return almanac;
    }

    private int slotsWithRow() {
        int made = 0;
        for (int slot = 0; slot < SLOTS; slot++) {
            if (rows[slot].made) {
                made++;
            }
        }
        return made;
    }

    /** 0 when the orders are read, else what the call is to answer. */
    private int readOrders(int slot) {
        if (!isSlot(slot) || current.lines == 0) {
            return NO_SUCH;
        }
        if (!rows[slot].made) {
            return HAS_NOTHING;
        }
        return orders.read(rows[slot], current) ? 0 : NO_SUCH;
    }

    /** 0 when the days that fit are gathered, else what the call is to answer. */
    private int readSights(int slot, int from, int to) {
        if (!isSlot(slot) || !isSpan(from, to) || current.lines == 0) {
            return NO_SUCH;
        }
        Row row = rows[slot];
        if (!row.made) {
            return HAS_NOTHING;
        }
        if (!sights.isTold(row, current.landCount)) {
            return NO_SUCH;
        }
        almanac.bringUpToDate(current);
        sights.gather(row, almanac, from, to);
        return 0;
    }

    /** The bytes fed in, not yet read. */
    private static final class Tape {
        final byte[] bytes = new byte[TAPE_BYTES];
        int size = 0;

        void append(int number) {
            for (int shift = 24; shift >= 0 && size < TAPE_BYTES; shift -= 8) {
                bytes[size] = (byte) (number >> shift);
                size++;
            }
        }
    }

    /** Reads a tape as a war, and stops at the first fault. */
    private static final class Reader {
        static final int END = 0;
        static final int WORD = 1;
        static final int NUMBER = 2;
        static final int SEMICOLON = 3;
        static final int STRANGE = 4;
        static final int HUGE = 100000;

        byte[] bytes = new byte[0];
        int size = 0;
        int kind = END;
        int start = 0;
        int stop = 0;
        int value = 0;
        int fault = 0;
        int faultAt = NONE;

        void read(Tape tape, War target) {
            bytes = tape.bytes;
            size = tape.size;
            fault = 0;
            faultAt = NONE;
            stop = 0;
            target.clear();
            step();
            for (int line = 0; line <= TAPE_BYTES && fault == 0 && kind != END; line++) {
                readLine(target);
            }
        }

        void readLine(War target) {
            boolean isFirst = target.lines == 0;
            if (isFirst && isWord("war")) {
                step();
                readRain(target);
            } else if (!isFirst && isWord("land")) {
                startLine(target.landCount < LANDS);
                readLand(target);
            } else if (!isFirst && isWord("feast")) {
                startLine(target.feastCount < FEASTS);
                readFeast(target);
            } else if (!isFirst && isWord("truce")) {
                startLine(target.truceCount < TRUCES);
                readTruce(target);
            } else {
                refuse(1);
            }
            if (fault == 0 && kind != SEMICOLON) {
                refuse(1);
            }
            if (fault == 0) {
                target.lines++;
                step();
            }
        }

        void startLine(boolean hasRoom) {
            if (hasRoom) {
                step();
            } else {
                refuse(3);
            }
        }

        void readRain(War target) {
            needWord("rain");
            target.rain = needNumber(0, 100);
        }

        void readLand(War target) {
            if (fault != 0 || target.landCount >= LANDS) {
                return;
            }
            Land land = target.lands[target.landCount];
            land.clear();
            needWord("from");
            land.from = needNumber(0, 999);
            needWord("week");
            land.week = needNumber(2, 10);
            needWord("rests");
            // the bits of all weekdays at once would leave none that is no rest
            land.rests = needNumber(0, (1 << land.week) - 2);
            needWord("year");
            readMonths(land);
            if (fault == 0 && isWord("leap")) {
                step();
                land.leap = needNumber(2, 9);
                needWord("in");
                land.longMonth = needNumber(0, land.months - 1);
                needWord("adds");
                land.adds = needNumber(1, MOST_ADDED);
            }
            if (fault == 0) {
                target.landCount++;
            }
        }

        void readMonths(Land land) {
            int length = needNumber(1, MONTH_DAYS);
            for (int m = 0; m < MONTHS && fault == 0; m++) {
                land.appendMonth(length);
                if (kind != NUMBER) {
                    return;
                }
                // a ninth month that is no month either is a fault of the lesser kind
                if (m + 1 == MONTHS && value >= 1 && value <= MONTH_DAYS) {
                    refuse(3);
                }
                length = needNumber(1, MONTH_DAYS);
            }
        }

        void readFeast(War target) {
            if (fault != 0) {
                return;
            }
            int land = needNumber(0, target.landCount - 1);
            int month = needNumber(0, target.lands[land].months - 1);
            int day = needNumber(0, target.lands[land].lengths[month] - 1);
            needWord("for");
            int days = needNumber(1, FEAST_DAYS);
            if (fault == 0) {
                target.insertFeast(target.feastCount, land, month, day, days);
            }
        }

        void readTruce(War target) {
            if (fault != 0) {
                return;
            }
            int land = needNumber(0, target.landCount - 1);
            needWord("from");
            int from = needNumber(0, DAYS - 1);
            needWord("to");
            int to = needNumber(from, DAYS - 1);
            if (fault == 0) {
                target.appendTruce(land, from, to);
            }
        }

        void needWord(String word) {
            if (fault == 0 && isWord(word)) {
                step();
            } else {
                refuse(1);
            }
        }

        /** The number that stands here; 0 behind a fault, which is an index everywhere. */
        int needNumber(int least, int greatest) {
            if (fault != 0) {
                return 0;
            }
            if (kind != NUMBER) {
                refuse(1);
                return 0;
            }
            if (value < least || value > greatest) {
                refuse(2);
                return 0;
            }
            int number = value;
            step();
            return number;
        }

        void refuse(int kindOfFault) {
            if (fault == 0) {
                fault = kindOfFault;
                faultAt = start;
            }
        }

        boolean isWord(String word) {
            if (kind != WORD || stop - start != word.length()) {
                return false;
            }
            for (int i = 0; i < word.length(); i++) {
                if (bytes[start + i] != (byte) word.charAt(i)) {
                    return false;
                }
            }
            return true;
        }

        /** Goes on to the next token. */
        void step() {
            start = stop;
            while (start < size && (bytes[start] == ' ' || bytes[start] == 10)) {
                start++;
            }
            stop = start;
            value = 0;
            while (stop < size && bytes[stop] >= 'a' && bytes[stop] <= 'z') {
                stop++;
            }
            if (stop > start) {
                kind = WORD;
                return;
            }
            while (stop < size && bytes[stop] >= '0' && bytes[stop] <= '9') {
                // past every bound already: more digits must not wrap around
                if (value < HUGE) {
                    value = value * 10 + bytes[stop] - '0';
                }
                stop++;
            }
            if (stop > start) {
                kind = NUMBER;
            } else if (start >= size) {
                kind = END;
            } else {
                kind = bytes[start] == ';' ? SEMICOLON : STRANGE;
                stop = start + 1;
            }
        }
    }

    /** How one land counts its days. */
    private static final class Land {
        int from = 0;
        int week = 2;
        int rests = 0;
        int months = 0;
        int leap = 0;
        int longMonth = NONE;
        int adds = 0;
        // of a year without leap
        int yearDays = 0;
        final int[] lengths = new int[MONTHS];

        void clear() {
            months = 0;
            yearDays = 0;
            leap = 0;
            longMonth = NONE;
            adds = 0;
        }

        void copyOf(Land other) {
            from = other.from;
            week = other.week;
            rests = other.rests;
            months = other.months;
            leap = other.leap;
            longMonth = other.longMonth;
            adds = other.adds;
            yearDays = other.yearDays;
            System.arraycopy(other.lengths, 0, lengths, 0, MONTHS);
        }

        /** Only where there is room. */
        void appendMonth(int length) {
            lengths[months] = length;
            months++;
            yearDays += length;
        }

        boolean hasWeekday(int weekday) {
            return weekday >= 0 && weekday < week;
        }

        boolean isLeapYear(int year) {
            return leap > 0 && year % leap == 0;
        }

        /** Of one of its months. */
        int lengthIn(int month, int year) {
            return month == longMonth && isLeapYear(year) ? lengths[month] + adds : lengths[month];
        }

        /** Days until month, day and leap come again. */
        int leapCycle() {
            return leap > 0 ? leap * yearDays + adds : yearDays;
        }

        /** The day of a date, though it may be behind all days. */
        int dayOn(int year, int month, int day) {
            int leapYearsBefore = leap > 0 ? (year + leap - 1) / leap : 0;
            int found = from + year * yearDays + leapYearsBefore * adds + day;
            for (int m = 0; m < month && m < months; m++) {
                found += lengths[m];
            }
            return longMonth < month && isLeapYear(year) ? found + adds : found;
        }
    }

    /** What the text told, and what was changed since. */
    private static final class War {
        static final int FOUNDED = 1;
        static final int GRANTED = 2;
        static final int ENDED = 3;

        int lines = 0;
        int rain = 0;
        int landCount = 0;
        int feastCount = 0;
        int truceCount = 0;
        int changeCount = 0;
        final Land[] lands = new Land[LANDS];
        // of each feast: land, month, day, days
        final int[] feasts = new int[FEASTS * FEAST_PARTS];
        // of each truce: land, from, to
        final int[] truces = new int[TRUCES * TRUCE_PARTS];
        // of each change: its kind, the number of the feast or truce, and the four parts of a feast that ended
        final int[] changes = new int[CHANGES * CHANGE_PARTS];

        War() {
            for (int land = 0; land < LANDS; land++) {
                lands[land] = new Land();
            }
        }

        void clear() {
            lines = 0;
            rain = 0;
            landCount = 0;
            feastCount = 0;
            truceCount = 0;
            changeCount = 0;
        }

        void copyOf(War other) {
            lines = other.lines;
            rain = other.rain;
            landCount = other.landCount;
            feastCount = other.feastCount;
            truceCount = other.truceCount;
            changeCount = other.changeCount;
            for (int land = 0; land < LANDS; land++) {
                lands[land].copyOf(other.lands[land]);
            }
            System.arraycopy(other.feasts, 0, feasts, 0, feasts.length);
            System.arraycopy(other.truces, 0, truces, 0, truces.length);
            System.arraycopy(other.changes, 0, changes, 0, changes.length);
        }

        boolean hasLand(int land) {
            return land >= 0 && land < landCount;
        }

        boolean hasMonth(int land, int month) {
            return hasLand(land) && month >= 0 && month < lands[land].months;
        }

        /** Whether a date stands in every year, leap or not. */
        boolean hasPlainDate(int land, int month, int day) {
            return hasMonth(land, month) && day >= 0 && day < lands[land].lengths[month];
        }

        /** The day of a date, NONE behind all days, NO_SUCH if there is no such date. */
        int dayOfDate(int land, int year, int month, int day) {
            if (!hasMonth(land, month) || !isYear(year)) {
                return NO_SUCH;
            }
            if (day < 0 || day >= lands[land].lengthIn(month, year)) {
                return NO_SUCH;
            }
            int found = lands[land].dayOn(year, month, day);
            return isDay(found) ? found : NONE;
        }

        /** Only where there is room; later feasts move up. */
        void insertFeast(int feast, int land, int month, int day, int days) {
            int at = feast * FEAST_PARTS;
            System.arraycopy(feasts, at, feasts, at + FEAST_PARTS, (feastCount - feast) * FEAST_PARTS);
            feasts[at] = land;
            feasts[at + 1] = month;
            feasts[at + 2] = day;
            feasts[at + 3] = days;
            feastCount++;
        }

        void removeFeast(int feast) {
            int at = feast * FEAST_PARTS;
            feastCount--;
            System.arraycopy(feasts, at + FEAST_PARTS, feasts, at, (feastCount - feast) * FEAST_PARTS);
        }

        int latestFeastOf(int land) {
            for (int feast = feastCount - 1; feast >= 0; feast--) {
                if (feasts[feast * FEAST_PARTS] == land) {
                    return feast;
                }
            }
            return NONE;
        }

        /** Only where there is room. */
        void appendTruce(int land, int from, int to) {
            int at = truceCount * TRUCE_PARTS;
            truces[at] = land;
            truces[at + 1] = from;
            truces[at + 2] = to;
            truceCount++;
        }

        int trucesOn(int day) {
            int held = 0;
            for (int truce = 0; truce < truceCount; truce++) {
                int at = truce * TRUCE_PARTS;
                if (truces[at + 1] <= day && day <= truces[at + 2]) {
                    held++;
                }
            }
            return held;
        }

        void noteFounded() {
            noteChange(FOUNDED, feastCount - 1);
        }

        void noteGranted() {
            noteChange(GRANTED, truceCount - 1);
        }

        /** While the feast still stands, to keep its parts. */
        void noteEnded(int feast) {
            System.arraycopy(feasts, feast * FEAST_PARTS, changes, changeCount * CHANGE_PARTS + 2, FEAST_PARTS);
            noteChange(ENDED, feast);
        }

        void noteChange(int kind, int number) {
            changes[changeCount * CHANGE_PARTS] = kind;
            changes[changeCount * CHANGE_PARTS + 1] = number;
            changeCount++;
        }

        /** Only where there is a change: answers the land that it was about. */
        int takeBackLatest() {
            changeCount--;
            int at = changeCount * CHANGE_PARTS;
            int number = changes[at + 1];
            if (changes[at] == FOUNDED) {
                feastCount--;
                return feasts[number * FEAST_PARTS];
            }
            if (changes[at] == GRANTED) {
                truceCount--;
                return truces[number * TRUCE_PARTS];
            }
            insertFeast(number, changes[at + 2], changes[at + 3], changes[at + 4], changes[at + 5]);
            return changes[at + 2];
        }
    }

    /** What each day is for each land, worked out once and asked often. */
    private static final class Almanac {
        static final int AHEAD = 1;
        static final int REST = 2;
        static final int FEAST = 3;
        static final int TRUCE = 4;

        // one number for each land and day: year, month (3 bits), day (7), weekday (4); NONE ahead of the count
        final int[] dates = new int[LANDS * DAYS];
        // for each land and day why it may not fight, 0 if it may
        final byte[] reasons = new byte[LANDS * DAYS];
        // for each day the lands that may fight, as bits
        final byte[] fighters = new byte[DAYS];
        boolean datesStale = true;
        int reasonsStale = 0;
        int waitLength = 0;
        int waitStart = NONE;
        int bestDay = 0;
        int mostAlone = 0;

        void forgetAll() {
            datesStale = true;
        }

        void forgetReasons(int land) {
            reasonsStale |= 1 << land;
        }

        void bringUpToDate(War war) {
            if (datesStale) {
                datesStale = false;
                reasonsStale = (1 << war.landCount) - 1;
                Arrays.fill(fighters, (byte) 0);
                for (int land = 0; land < war.landCount; land++) {
                    fillDates(war.lands[land], land * DAYS);
                }
            }
            if (reasonsStale != 0) {
                for (int land = 0; land < war.landCount; land++) {
                    if ((reasonsStale >> land & 1) == 1) {
                        fillReasons(war, land);
                        fillFighters(land);
                    }
                }
                reasonsStale = 0;
            }
        }

        void fillDates(Land land, int base) {
            int year = 0;
            int month = 0;
            int day = 0;
            int weekday = 0;
            int length = land.lengthIn(0, 0);
            for (int d = 0; d < DAYS; d++) {
                if (d < land.from) {
                    dates[base + d] = NONE;
                    continue;
                }
                dates[base + d] = year << 14 | month << 11 | day << 4 | weekday;
                weekday = weekday + 1 == land.week ? 0 : weekday + 1;
                day++;
                if (day == length) {
                    day = 0;
                    month++;
                    if (month == land.months) {
                        month = 0;
                        year++;
                    }
                    length = land.lengthIn(month, year);
                }
            }
        }

        void fillReasons(War war, int number) {
            Land land = war.lands[number];
            int base = number * DAYS;
            for (int d = 0; d < DAYS; d++) {
                int date = dates[base + d];
                boolean rests = (land.rests >> (date & 15) & 1) == 1;
                reasons[base + d] = (byte) (date == NONE ? AHEAD : rests ? REST : 0);
            }
            for (int feast = 0; feast < war.feastCount; feast++) {
                int at = feast * FEAST_PARTS;
                if (war.feasts[at] == number) {
                    markFeast(land, base, war.feasts[at + 1], war.feasts[at + 2], war.feasts[at + 3]);
                }
            }
            for (int truce = 0; truce < war.truceCount; truce++) {
                int at = truce * TRUCE_PARTS;
                if (war.truces[at] == number) {
                    markReason(base, war.truces[at + 1], war.truces[at + 2], TRUCE);
                }
            }
        }

        void markFeast(Land land, int base, int month, int day, int days) {
            for (int year = 0; year < YEARS; year++) {
                int first = land.dayOn(year, month, day);
                if (first >= DAYS) {
                    return;
                }
                markReason(base, first, first + days - 1, FEAST);
            }
        }

        /** A reason that is there already comes first. */
        void markReason(int base, int from, int to, int reason) {
            for (int d = from; d <= to && d < DAYS; d++) {
                if (reasons[base + d] == 0) {
                    reasons[base + d] = (byte) reason;
                }
            }
        }

        void fillFighters(int land) {
            int base = land * DAYS;
            int bit = 1 << land;
            for (int d = 0; d < DAYS; d++) {
                if (reasons[base + d] == 0) {
                    fighters[d] = (byte) (fighters[d] | bit);
                } else {
                    fighters[d] = (byte) (fighters[d] & ~bit);
                }
            }
        }

        int reason(int land, int day) {
            return reasons[land * DAYS + day];
        }

        /** YEAR, MONTH, DAY or WEEKDAY of a day (NONE ahead of the count), or whether the land MAY. */
        int part(int land, int day, int what) {
            if (what == MAY) {
                return fighters[day] >> land & 1;
            }
            int date = dates[land * DAYS + day];
            if (date == NONE) {
                return NONE;
            }
            switch (what) {
                case YEAR: return date >> 14;
                case MONTH: return date >> 11 & 7;
                case DAY: return date >> 4 & 127;
                default: return date & 15;
            }
        }

        /** Month and day as one number that grows with them, NONE ahead of the count. */
        int monthDay(int land, int day) {
            int date = dates[land * DAYS + day];
            return date == NONE ? NONE : date >> 4 & 1023;
        }

        boolean allFight(int set, int day) {
            return (fighters[day] & set) == set;
        }

        int fightingDays(int set, int from, int to) {
            int days = 0;
            for (int d = from; d <= to; d++) {
                if (allFight(set, d)) {
                    days++;
                }
            }
            return days;
        }

        /** The longest run of days of a span with no more than so many on which all fight. */
        void seekWait(int set, int from, int to, int allowed) {
            waitLength = 0;
            waitStart = NONE;
            int start = from;
            int fights = 0;
            for (int d = from; d <= to; d++) {
                if (allFight(set, d)) {
                    fights++;
                }
                // each day adds one fight at most, so that the start passes one at most
                while (fights > allowed && start <= d) {
                    if (allFight(set, start)) {
                        fights--;
                    }
                    start++;
                }
                if (d - start + 1 > waitLength) {
                    waitLength = d - start + 1;
                    waitStart = start;
                }
            }
        }

        int ageBy(int land, int born, int day) {
            int bornOn = monthDay(land, born);
            if (born > day || bornOn == NONE) {
                return NONE;
            }
            int years = part(land, day, YEAR) - part(land, born, YEAR);
            return monthDay(land, day) < bornOn ? years - 1 : years;
        }

        int clashDay(int land, int other, int day, int n) {
            int steps = 0;
            for (int d = day; d < DAYS; d++) {
                steps += part(land, d, MAY) + part(other, d, MAY);
                if (steps >= n) {
                    return d;
                }
            }
            return NONE;
        }

        int aloneOn(int land, int other, int day) {
            return part(land, day, MAY) & ~part(other, day, MAY);
        }

        int daysAlone(int land, int other, int from, int to) {
            int days = 0;
            for (int d = from; d <= to; d++) {
                days += aloneOn(land, other, d);
            }
            return days;
        }

        void seekBeginning(int land, int other, int from, int to, int n) {
            int days = daysAlone(land, other, from, Math.min(from + n, DAYS) - 1);
            bestDay = from;
            mostAlone = days;
            for (int d = from + 1; d <= to; d++) {
                days -= aloneOn(land, other, d - 1);
                if (d + n - 1 < DAYS) {
                    days += aloneOn(land, other, d + n - 1);
                }
                if (days > mostAlone) {
                    bestDay = d;
                    mostAlone = days;
                }
            }
        }
    }

    /** The fewest feasts that leave a land no day to fight in a month. */
    private static final class Saints {
        final boolean[] open = new boolean[MONTH_DAYS + MOST_ADDED];
        int fewest = 0;
        long begun = 0;

        void seek(Land land, Almanac book, int number, int month, int year, int years, int n) {
            for (int d = 0; d < open.length; d++) {
                open[d] = false;
            }
            for (int y = year; y < year + years; y++) {
                openDays(land.dayOn(y, month, 0), land.lengthIn(month, y), book, number);
            }
            cover(land.lengths[month] - 1, n);
        }

        void openDays(int first, int length, Almanac book, int number) {
            for (int d = 0; d < length && first + d < DAYS; d++) {
                if (book.part(number, first + d, MAY) == 1) {
                    open[d] = true;
                }
            }
        }

        void cover(int lastStart, int n) {
            fewest = 0;
            begun = 0;
            int covered = 0;
            for (int d = 0; d < open.length; d++) {
                if (open[d] && d >= covered) {
                    int start = Math.min(d, lastStart);
                    covered = start + n;
                    if (d >= covered) {
                        fewest = NONE;
                        begun = NONE;
                        return;
                    }
                    fewest++;
                    begun |= 1L << start;
                }
            }
        }
    }

    /** A row's numbers as dates by whom. */
    private static final class Orders {
        static final int PARTS = 4;

        final int[] lands = new int[ROW_NUMBERS / PARTS];
        final int[] days = new int[ROW_NUMBERS / PARTS];
        int size = 0;

        /** Whether the row tells orders, all of dates that are. */
        boolean read(Row row, War war) {
            if (row.size % PARTS != 0) {
                return false;
            }
            size = row.size / PARTS;
            for (int i = 0; i < size; i++) {
                int at = i * PARTS;
                if (!row.areSmall(at, PARTS)) {
                    return false;
                }
                lands[i] = (int) row.numbers[at];
                days[i] = war.dayOfDate(lands[i], (int) row.numbers[at + 1],
                    (int) row.numbers[at + 2], (int) row.numbers[at + 3]);
                if (days[i] < 0) {
                    return false;
                }
            }
            return true;
        }

        int placeOfOldest() {
            int oldest = size == 0 ? NONE : 0;
            for (int i = 1; i < size; i++) {
                if (days[i] < days[oldest]) {
                    oldest = i;
                }
            }
            return oldest;
        }

        int earlierThan(int i) {
            int earlier = 0;
            for (int j = 0; j < size; j++) {
                if (days[j] < days[i]) {
                    earlier++;
                }
            }
            return earlier;
        }

        int daysApart() {
            if (size == 0) {
                return NONE;
            }
            int first = days[0];
            int last = days[0];
            for (int i = 1; i < size; i++) {
                first = Math.min(first, days[i]);
                last = Math.max(last, days[i]);
            }
            return last - first;
        }

        int datedAtRest(Almanac book) {
            int atRest = 0;
            for (int i = 0; i < size; i++) {
                atRest += 1 - book.part(lands[i], days[i], MAY);
            }
            return atRest;
        }
    }

    /** The days of a span that fit a row of what was seen. */
    private static final class Seen {
        static final int PARTS = 3;

        final int[] days = new int[DAYS];
        int size = 0;
        // how many days give each answer; the first is for days ahead of a count
        final int[] answers = new int[12];
        int question = NONE;
        int left = 0;

        boolean isTold(Row row, int landCount) {
            if (row.size % PARTS != 0) {
                return false;
            }
            for (int at = 0; at + PARTS <= row.size; at += PARTS) {
                long land = row.numbers[at];
                long what = row.numbers[at + 1];
                if (land < 0 || land >= landCount || what < YEAR || what > MAY) {
                    return false;
                }
            }
            return true;
        }

        void gather(Row row, Almanac book, int from, int to) {
            size = 0;
            for (int d = from; d <= to; d++) {
                if (fitsAll(row, book, d)) {
                    days[size] = d;
                    size++;
                }
            }
        }

        boolean fitsAll(Row row, Almanac book, int day) {
            for (int at = 0; at + PARTS <= row.size; at += PARTS) {
                int part = book.part((int) row.numbers[at], day, (int) row.numbers[at + 1]);
                // a row can hold NONE too, yet a day ahead of the count fits nothing
                if (part == NONE || part != row.numbers[at + 2]) {
                    return false;
                }
            }
            return true;
        }

        int fightersOnAll(Almanac book) {
            int set = size == 0 ? 0 : book.fighters[days[0]];
            for (int i = 1; i < size; i++) {
                set &= book.fighters[days[i]];
            }
            return set;
        }

        int fightersOnSome(Almanac book) {
            int set = 0;
            for (int i = 0; i < size; i++) {
                set |= book.fighters[days[i]];
            }
            return set;
        }

        void seekQuestion(Almanac book, int landCount) {
            question = NONE;
            left = size;
            for (int land = 0; land < landCount; land++) {
                tryQuestion(book, land, MONTH);
                tryQuestion(book, land, WEEKDAY);
                tryQuestion(book, land, MAY);
            }
        }

        void tryQuestion(Almanac book, int land, int what) {
            Arrays.fill(answers, 0);
            int worst = 0;
            for (int i = 0; i < size; i++) {
                int answer = book.part(land, days[i], what) + 1;
                answers[answer]++;
                worst = Math.max(worst, answers[answer]);
            }
            if (worst < left) {
                left = worst;
                question = 10 * land + what;
            }
        }
    }

    /** The game of stones, played well by both. */
    private static final class Stones {
        // each turn takes a stone at least, so that no more turns than stones count
        final int[] turns = new int[STONES];
        int turnCount = 0;
        // who wins with so many stones from a turn on; worked out from the last turn to the first
        final int[] winners = new int[STONES + 1];
        int winner = NONE;
        int firstTake = 0;

        void play(Almanac book, int lesser, int greater, int day, int n) {
            listTurns(book, lesser, greater, day, n);
            for (int left = 0; left <= n; left++) {
                winners[left] = NONE;
            }
            for (int turn = turnCount - 1; turn >= 1; turn--) {
                // from many stones to few, since each looks at fewer ones of the turn behind
                for (int left = n; left >= 1; left--) {
                    winners[left] = winnerOf(turns[turn], left, bestTake(turns[turn], left));
                }
            }
            firstTake = turnCount == 0 ? 0 : bestTake(turns[0], n);
            winner = turnCount == 0 ? NONE : winnerOf(turns[0], n, firstTake);
        }

        void listTurns(Almanac book, int lesser, int greater, int day, int n) {
            turnCount = 0;
            for (int d = day; d < DAYS && turnCount < n; d++) {
                if (book.part(lesser, d, MAY) == 1) {
                    turns[turnCount] = lesser;
                    turnCount++;
                }
                if (turnCount < n && book.part(greater, d, MAY) == 1) {
                    turns[turnCount] = greater;
                    turnCount++;
                }
            }
        }

        int bestTake(int mover, int left) {
            if (left < 2 || worth(mover, left, 1) >= worth(mover, left, 2)) {
                return 1;
            }
            return 2;
        }

        int worth(int mover, int left, int take) {
            int wins = winnerOf(mover, left, take);
            return wins == mover ? 2 : wins == NONE ? 1 : 0;
        }

        int winnerOf(int mover, int left, int take) {
            return left == take ? mover : winners[left - take];
        }
    }

    /** A slot's numbers. */
    private static final class Row {
        final long[] numbers = new long[ROW_NUMBERS];
        boolean made = false;
        int width = 0;
        int size = 0;

        void renew(int newWidth, int n) {
            made = true;
            width = newWidth;
            size = n;
            Arrays.fill(numbers, 0L);
        }

        long cut(long v) {
            switch (width) {
                case 0: return (byte) v;
                case 1: return (short) v;
                case 2: return (int) v;
                default: return v;
            }
        }

        boolean hasStretch(int from, int n) {
            return from >= 0 && n >= 0 && n <= size && from <= size - n;
        }

        /** Whether none would change when made an int; no number that means anything is larger than a day. */
        boolean areSmall(int from, int n) {
            for (int i = from; i < from + n && i < size; i++) {
                if (numbers[i] < 0 || numbers[i] >= DAYS) {
                    return false;
                }
            }
            return true;
        }
    }
}
