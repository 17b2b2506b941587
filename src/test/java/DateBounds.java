import java.util.function.IntToLongFunction;

/** The bounds of DAYS, dates and who may fight: Term II, and the promises 6 to 14. */
final class DateBounds {
    private static final int[] NO_DAYS = {-1, 2000, Integer.MIN_VALUE, Integer.MAX_VALUE};
    private static final String EVER = "land from 0 week 2 rests 0 year 1;";
    // years of 31 and 30 days by turns; and one from day 3 on with years of 12 days
    private static final String TWO = "war rain 30;land from 0 week 7 rests 96 year 10 20 leap 2 in 1 adds 1;"
        + "land from 3 week 5 rests 2 year 12;feast 0 0 2 for 1;feast 1 0 5 for 2;truce 0 from 40 to 45;truce 1 from 44 to 60;";

    private static TwoCalendars x = new TwoCalendars();

    private DateBounds() {
    }

    static void run() {
        daysOfEveryCall();
        countBegins();
        weekdays();
        monthsOfYears();
        leapYears();
        feasts();
        feastsAtTheEnd();
        mayFight();
        whyNot();
        lands();
        landsRefused();
        months();
        monthsRefused();
        feastsTold();
        trucesTold();
        dates();
        datesRefused();
        days();
        daysBehindAll();
        daysRefused();
        mays();
        whys();
        whos();
    }

    private static void due(String call, long got, long want) {
        Due.is(call, got, want);
    }

    // ---- Term II ----

    /** The first and the last DAY are answered, those beside them are none such. */
    private static void dayOf(String call, long none, IntToLongFunction answer) {
        for (int day : NO_DAYS) {
            due(call + " on " + day, answer.applyAsLong(day), none);
        }
        Due.isTrue(call + " on 0", answer.applyAsLong(0) != none);
        Due.isTrue(call + " on 1999", answer.applyAsLong(1999) != none);
    }

    private static void daysOfEveryCall() {
        Sentences.ofTerm("II", "DAYS 0 .. 1999 are the same for all.");
        x = Due.of("war rain 50;" + EVER + EVER, 3);
        due("a row of no numbers", x.row(0, 0, 0), 0);
        dayOf("date", -2, d -> x.date(0, d, 0));
        dayOf("may", -2, d -> x.may(0, d));
        dayOf("why", -2, d -> x.why(0, d));
        dayOf("who", -2, d -> x.who(d));
        dayOf("next", -2, d -> x.next(3, d));
        dayOf("many from", -2, d -> x.many(3, d, Math.max(0, Math.min(d, 1999))));
        dayOf("many to", -2, d -> x.many(3, 0, d));
        dayOf("waits to", -2, d -> x.waits(3, 0, d));
        dayOf("waiting to", -2, d -> x.waiting(3, 0, d));
        dayOf("share to", -2, d -> x.share(3, 0, d, 0));
        dayOf("meets", -2, d -> x.meets(0, 0, 1, 0, d));
        dayOf("alike", -2, d -> x.alike(0, 1, d));
        dayOf("years", -2, d -> x.years(d));
        dayOf("comes", -2, d -> x.comes(0, d));
        dayOf("bridge to", -2, d -> x.bridge(0, 0, d, 1));
        dayOf("bridged to", -2, d -> x.bridged(0, 0, d, 1));
        dayOf("fits to", -2, d -> x.fits(0, 0, d));
        dayOf("fit to", -2, d -> x.fit(0, 0, d, 0));
        dayOf("sure to", -2, d -> x.sure(0, 0, d, 0));
        dayOf("ask to", -2, d -> x.ask(0, 0, d));
        dayOf("leaves to", -2, d -> x.leaves(0, 0, d));
        dayOf("holds", -2, d -> x.holds(d));
        dayOf("overlap", -2, d -> x.overlap(1, d));
        dayOf("age born", -2, d -> x.age(0, d, 1999));
        dayOf("age", -2, d -> x.age(0, 0, d));
        dayOf("gains born", -2000, d -> x.gains(0, 1, d, 1999));
        dayOf("gains", -2000, d -> x.gains(0, 1, 0, d));
        dayOf("march", -2, d -> x.march(0, d, 1));
        dayOf("clash", -2, d -> x.clash(0, 1, d, 1));
        dayOf("place", -2, d -> x.place(0, 1, d, 1));
        dayOf("alone to", -2, d -> x.alone(0, 1, 0, d));
        dayOf("begin to", -2, d -> x.begin(0, 1, 0, d, 1));
        dayOf("begins to", -2, d -> x.begins(0, 1, 0, d, 1));
        dayOf("game", -2, d -> x.game(0, 1, d, 1));
        dayOf("takes", -2, d -> x.takes(0, 1, d, 1));
        dayOf("grant to", -2, d -> x.grant(0, 0, d));
        dayOf("grant from", -2, d -> x.grant(0, d, 1999));
        dayOf("drawn", -2, d -> x.drawn(0, d, 1, 0));
        dayOf("luck", -2, d -> x.luck(0, 1, 0, d, 1));
    }

    private static void date(int land, int day, int year, int month, int monthDay, int weekday) {
        String call = "LAND " + land + " on " + day + ": ";
        due(call + "YEAR", x.date(land, day, 0), year);
        due(call + "MONTH", x.date(land, day, 1), month);
        due(call + "day", x.date(land, day, 2), monthDay);
        due(call + "weekday", x.date(land, day, 3), weekday);
        if (year >= 0) {
            due(call + "turned back", x.day(land, year, month, monthDay), day);
        }
    }

    private static void countBegins() {
        Sentences.ofTerm("II", "A LAND's count begins on its DAY from: YEAR 0, MONTH 0, day 0, weekday 0");
        x = Due.of("war rain 0;land from 0 week 3 rests 0 year 5;land from 1 week 3 rests 0 year 5;land from 999 week 3 rests 0 year 5;", 4);
        date(0, 0, 0, 0, 0, 0);
        date(0, 1, 0, 0, 1, 1);
        date(1, 0, -1, -1, -1, -1);
        date(1, 1, 0, 0, 0, 0);
        date(2, 998, -1, -1, -1, -1);
        date(2, 999, 0, 0, 0, 0);
        date(2, 1000, 0, 0, 1, 1);
    }

    private static void weekdays() {
        Sentences.ofTerm("II", "weekdays go round by its week");
        x = Due.of("war rain 0;land from 0 week 2 rests 0 year 60;land from 7 week 10 rests 0 year 4;", 3);
        due("week 2, the last", x.date(0, 1, 3), 1);
        due("week 2, round", x.date(0, 2, 3), 0);
        due("week 2 on 1999", x.date(0, 1999, 3), 1);
        due("week 10, the last", x.date(1, 16, 3), 9);
        due("week 10, round", x.date(1, 17, 3), 0);
        due("week 10 over YEARS", x.date(1, 1999, 3), 2);
    }

    private static void monthsOfYears() {
        Sentences.ofTerm("II", "A YEAR has its MONTHS one behind the other");
        x = Due.of("war rain 0;land from 2 week 9 rests 0 year 1 60 2;land from 0 week 2 rests 0 year 1 1 1 1 1 1 1 1;" + EVER, 4);
        date(0, 2, 0, 0, 0, 0);
        date(0, 3, 0, 1, 0, 1);
        date(0, 62, 0, 1, 59, 6);
        date(0, 63, 0, 2, 0, 7);
        date(0, 64, 0, 2, 1, 8);
        date(0, 65, 1, 0, 0, 0);
        date(1, 7, 0, 7, 0, 1);
        date(1, 8, 1, 0, 0, 0);
        date(1, 1999, 249, 7, 0, 1);
        date(2, 1998, 1998, 0, 0, 0);
        date(2, 1999, 1999, 0, 0, 1);
    }

    private static void leapYears() {
        Sentences.ofTerm("II", "in YEARS whose number can be divided by leap (0, too) MONTH M is longer by adds (at its end)");
        x = Due.of("war rain 0;land from 0 week 10 rests 0 year 3 5 2 leap 9 in 1 adds 9;land from 0 week 2 rests 0 year 2 leap 2 in 0 adds 1;", 3);
        date(0, 16, 0, 1, 13, 6);
        date(0, 17, 0, 2, 0, 7);
        date(0, 18, 0, 2, 1, 8);
        date(0, 19, 1, 0, 0, 9);
        date(0, 26, 1, 1, 4, 6);
        date(0, 27, 1, 2, 0, 7);
        date(0, 98, 8, 2, 1, 8);
        date(0, 99, 9, 0, 0, 9);
        date(0, 115, 9, 1, 13, 5);
        date(0, 116, 9, 2, 0, 6);
        date(0, 118, 10, 0, 0, 8);
        int[] years = {0, 1, 8, 9, 10, 17, 18, 19, 1997, 1998, 1999};
        int[] lengths = {14, 5, 5, 14, 5, 5, 14, 5, 5, 14, 5};
        for (int i = 0; i < years.length; i++) {
            due("MONTH 1 in YEAR " + years[i], x.month(0, 1, years[i]), lengths[i]);
            due("MONTH 0 in YEAR " + years[i], x.month(0, 0, years[i]), 3);
            due("MONTH 2 in YEAR " + years[i], x.month(0, 2, years[i]), 2);
        }
        // years of three and two days by turns
        date(1, 2, 0, 0, 2, 0);
        date(1, 3, 1, 0, 0, 1);
        date(1, 4, 1, 0, 1, 0);
        date(1, 5, 2, 0, 0, 1);
        date(1, 1999, 799, 0, 1, 1);
    }

    private static void feasts() {
        Sentences.ofTerm("II", "A FEAST is on each such date of MONTH and day, and so many days in all (beyond the MONTH, the YEAR, too)");
        // years of nine and seven days by turns from 4 on: the date is on 10, 19, 26, 35, ..
        x = Due.of("war rain 0;land from 4 week 10 rests 0 year 3 4 leap 2 in 1 adds 2;feast 0 1 3 for 4;", 3);
        String on = "111100000033330000033330003333000003333000333300000";
        for (int day = 0; day < on.length(); day++) {
            due("why on " + day, x.why(0, day), on.charAt(day) - '0');
        }
        x = Due.of("war rain 0;land from 0 week 10 rests 0 year 10 40;feast 0 0 9 for 2;", 3);
        due("ahead of it", x.why(0, 8), 0);
        due("on the MONTH's last day", x.why(0, 9), 3);
        due("beyond the MONTH", x.why(0, 10), 3);
        due("behind it", x.why(0, 11), 0);
        due("a YEAR later", x.why(0, 60), 3);
        x = Due.of("war rain 0;land from 0 week 10 rests 0 year 20;feast 0 0 5 for 1;feast 0 0 19 for 9;", 4);
        due("one day", x.why(0, 5), 3);
        due("no second day", x.why(0, 6), 0);
        due("nothing of YEARS ahead", x.why(0, 0), 0);
        due("the first of nine", x.why(0, 19), 3);
        due("the ninth", x.why(0, 27), 3);
        due("no tenth", x.why(0, 28), 0);
    }

    private static void feastsAtTheEnd() {
        Sentences.ofTerm("II", "A FEAST is on each such date of MONTH and day");
        x = Due.of("war rain 0;land from 0 week 10 rests 0 year 10 40;feast 0 1 39 for 9;", 3);
        due("ahead of the last one", x.why(0, 1998), 0);
        due("begun on the last DAY", x.why(0, 1999), 3);
        due("ahead of the first one", x.why(0, 48), 0);
        due("its first day", x.why(0, 49), 3);
        due("its last day", x.why(0, 57), 3);
        due("behind it", x.why(0, 58), 0);
        // nothing of it on the first DAY, of this LAND or the next
        x = Due.of("war rain 0;land from 0 week 10 rests 0 year 10 40;land from 0 week 10 rests 0 year 7;", 3);
        due("both MAY on the first DAY", x.who(0), 3);
        due("a FEAST to begin on the last DAY", x.found(0, 1, 39, 9), 0);
        due("it does", x.why(0, 1999), 3);
        due("why not LAND 0 on the first DAY", x.why(0, 0), 0);
        due("why not LAND 1 on the first DAY", x.why(1, 0), 0);
        due("both still MAY", x.who(0), 3);
        x = Due.of("war rain 0;land from 999 week 10 rests 0 year 1;feast 0 0 0 for 9;", 3);
        due("ahead of the count", x.why(0, 998), 1);
        due("from its first DAY", x.why(0, 999), 3);
        due("to the last", x.why(0, 1999), 3);
    }

    private static void mayFight() {
        Sentences.ofTerm("II", "A LAND MAY fight on a DAY that is in its count, if its weekday is no rest, none of its FEASTS is on, "
            + "none of its TRUCES (both ends too) holds.");
        x = Due.of("war rain 100;land from 5 week 10 rests 513 year 60;" + EVER
            + "feast 0 0 22 for 1;truce 0 from 40 to 42;truce 0 from 1999 to 1999;truce 0 from 0 to 6;", 7);
        // land 0 rests on 5, 14, 15, 24, 25, ..
        int[] days = {4, 5, 6, 7, 13, 14, 15, 16, 26, 27, 28, 39, 40, 41, 42, 43, 1998, 1999};
        int[] may = {0, 0, 0, 1, 1, 0, 0, 1, 1, 0, 1, 1, 0, 0, 0, 1, 1, 0};
        for (int i = 0; i < days.length; i++) {
            due("may on " + days[i], x.may(0, days[i]), may[i]);
            due("the other may on " + days[i], x.may(1, days[i]), 1);
        }
        due("a YEAR later the FEAST is on", x.may(0, 87), 0);
        x = Due.of("war rain 0;" + EVER + EVER + "feast 1 0 0 for 1;truce 1 from 0 to 1999;", 5);
        due("another LAND's FEAST and TRUCE", x.may(0, 7), 1);
        due("its own", x.may(1, 7), 0);
    }

    private static void whyNot() {
        Sentences.ofTerm("II", "WHY not: the first of: 1 ahead of its count, 2 rest, 3 feast, 4 truce.");
        // rests on 10, 12, ..; feast on 20 and 21, 40 and 41, ..; truce to 21
        x = Due.of("war rain 0;land from 10 week 2 rests 1 year 20;feast 0 0 10 for 2;truce 0 from 0 to 21;", 4);
        due("ahead, though a truce", x.why(0, 9), 1);
        due("a rest, though a truce", x.why(0, 10), 2);
        due("a truce alone", x.why(0, 11), 4);
        due("a rest, though a feast, too", x.why(0, 20), 2);
        due("a feast, though a truce", x.why(0, 21), 3);
        due("a rest alone", x.why(0, 22), 2);
        due("it MAY", x.why(0, 23), 0);
        due("a feast alone", x.why(0, 41), 3);
    }

    // ---- the promises ----

    private static void lands() {
        Sentences.of(6, "what 0: from, 1: week, 2: rests, 3: MONTHS, 4: leap (0: none), 5: the MONTH that is longer (NONE), 6: adds (0)");
        x = Due.of(TWO, 7);
        int[] first = {0, 7, 96, 2, 2, 1, 1};
        int[] second = {3, 5, 2, 1, 0, -1, 0};
        for (int what = 0; what < 7; what++) {
            due("land(0, " + what + ")", x.land(0, what), first[what]);
            due("land(1, " + what + ")", x.land(1, what), second[what]);
        }
        // a LAND without leap in the place of one that had it
        Due.feed(x, "war rain 0;" + EVER);
        due("war", x.war(), 2);
        due("leap is gone", x.land(0, 4), 0);
        due("the MONTH is gone", x.land(0, 5), -1);
        due("adds is gone", x.land(0, 6), 0);
    }

    private static void landsRefused() {
        Sentences.of(6, "-2: there are none such");
        x = Due.of(TWO, 7);
        for (int land : new int[] {-1, 2, 3, Integer.MIN_VALUE, Integer.MAX_VALUE}) {
            due("land(" + land + ", 0)", x.land(land, 0), -2);
        }
        for (int what : new int[] {-1, 7, Integer.MIN_VALUE, Integer.MAX_VALUE}) {
            due("land(0, " + what + ")", x.land(0, what), -2);
            due("land(1, " + what + ")", x.land(1, what), -2);
        }
        x = Due.of("war rain 0;", 1);
        due("no LANDS", x.land(0, 0), -2);
        due("no WAR", new TwoCalendars().land(0, 0), -2);
    }

    private static void months() {
        Sentences.of(7, "How long a MONTH of a LAND is in a YEAR (0 .. 1999)");
        x = Due.of(TWO, 7);
        due("YEAR 0", x.month(0, 1, 0), 21);
        due("YEAR 1", x.month(0, 1, 1), 20);
        due("YEAR 1998", x.month(0, 1, 1998), 21);
        due("YEAR 1999", x.month(0, 1, 1999), 20);
        due("YEAR 2000", x.month(0, 1, 2000), -2);
        due("YEAR -1", x.month(0, 1, -1), -2);
        due("YEAR -2", x.month(0, 1, -2), -2);
        due("the largest YEAR", x.month(0, 1, Integer.MAX_VALUE), -2);
        due("the least YEAR", x.month(0, 1, Integer.MIN_VALUE), -2);
    }

    private static void monthsRefused() {
        Sentences.of(7, "-2: there are none such");
        x = Due.of(TWO, 7);
        due("MONTH -1", x.month(0, -1, 0), -2);
        due("MONTH 0", x.month(0, 0, 0), 10);
        due("MONTH 2", x.month(0, 2, 0), -2);
        due("MONTH 1 of one", x.month(1, 1, 0), -2);
        due("MONTH 0 of one", x.month(1, 0, 0), 12);
        due("LAND -1", x.month(-1, 0, 0), -2);
        due("LAND 2", x.month(2, 0, 0), -2);
        due("far MONTH", x.month(0, Integer.MAX_VALUE, 0), -2);
        due("no WAR", new TwoCalendars().month(0, 0, 0), -2);
        x = Due.of("war rain 0;land from 0 week 2 rests 0 year 1 2 3 4 5 6 7 8;", 2);
        due("the eighth MONTH", x.month(0, 7, 1999), 8);
        due("no ninth", x.month(0, 8, 0), -2);
    }

    private static void feastsTold() {
        Sentences.of(8, "-2: there are none such");
        x = Due.of(TWO, 7);
        int[] second = {1, 0, 5, 2};
        for (int what = 0; what < 4; what++) {
            due("feast(1, " + what + ")", x.feast(1, what), second[what]);
        }
        for (int feast : new int[] {-1, 2, 12, Integer.MIN_VALUE, Integer.MAX_VALUE}) {
            due("feast(" + feast + ", 0)", x.feast(feast, 0), -2);
        }
        for (int what : new int[] {-1, 4, Integer.MIN_VALUE, Integer.MAX_VALUE}) {
            due("feast(0, " + what + ")", x.feast(0, what), -2);
        }
        due("it ends", x.ends(1), 1);
        due("and is none then", x.feast(1, 0), -2);
        due("no WAR", new TwoCalendars().feast(0, 0), -2);
    }

    private static void trucesTold() {
        Sentences.of(9, "-2: there are none such");
        x = Due.of(TWO, 7);
        int[] second = {1, 44, 60};
        for (int what = 0; what < 3; what++) {
            due("truce(1, " + what + ")", x.truce(1, what), second[what]);
        }
        for (int truce : new int[] {-1, 2, 12, Integer.MIN_VALUE, Integer.MAX_VALUE}) {
            due("truce(" + truce + ", 0)", x.truce(truce, 0), -2);
        }
        for (int what : new int[] {-1, 3, Integer.MIN_VALUE, Integer.MAX_VALUE}) {
            due("truce(0, " + what + ")", x.truce(0, what), -2);
        }
        due("one is granted", x.grant(0, 1, 2), 2);
        due("its end", x.truce(2, 2), 2);
        due("taken back", x.undo(), 0);
        due("and is none then", x.truce(2, 0), -2);
        due("no WAR", new TwoCalendars().truce(0, 0), -2);
    }

    private static void dates() {
        Sentences.of(10, "NONE: it is ahead of its count");
        x = Due.of(TWO, 7);
        for (int what = 0; what < 4; what++) {
            due("DAY 0, what " + what, x.date(1, 0, what), -1);
            due("DAY 2, what " + what, x.date(1, 2, what), -1);
            due("DAY 3, what " + what, x.date(1, 3, what), 0);
            due("the other's DAY 0, what " + what, x.date(0, 0, what), 0);
        }
    }

    private static void datesRefused() {
        Sentences.of(10, "-2: there are none such");
        x = Due.of(TWO, 7);
        for (int day : NO_DAYS) {
            due("DAY " + day, x.date(0, day, 0), -2);
        }
        due("DAY 1999", x.date(0, 1999, 0), 65);
        for (int what : new int[] {-1, 4, Integer.MIN_VALUE, Integer.MAX_VALUE}) {
            due("what " + what, x.date(0, 7, what), -2);
        }
        due("what 3", x.date(0, 7, 3), 0);
        for (int land : new int[] {-1, 2, Integer.MIN_VALUE, Integer.MAX_VALUE}) {
            due("LAND " + land, x.date(land, 7, 0), -2);
        }
        due("no WAR", new TwoCalendars().date(0, 0, 0), -2);
    }

    private static void days() {
        Sentences.of(11, "The DAY of a date of a LAND (YEAR 0 .. 1999)");
        x = Due.of("war rain 0;" + EVER + "land from 1 week 2 rests 0 year 1;", 3);
        due("YEAR -1", x.day(0, -1, 0, 0), -2);
        due("YEAR 0", x.day(0, 0, 0, 0), 0);
        due("YEAR 1999", x.day(0, 1999, 0, 0), 1999);
        due("YEAR 2000", x.day(0, 2000, 0, 0), -2);
        due("the other's YEAR 0", x.day(1, 0, 0, 0), 1);
        due("the other's YEAR 1998", x.day(1, 1998, 0, 0), 1999);
        due("the other's YEAR 2000", x.day(1, 2000, 0, 0), -2);
        due("the largest YEAR", x.day(1, Integer.MAX_VALUE, 0, 0), -2);
        due("the least YEAR", x.day(1, Integer.MIN_VALUE, 0, 0), -2);
    }

    private static void daysBehindAll() {
        Sentences.of(11, "NONE: it is behind all DAYS");
        x = Due.of("war rain 0;land from 1 week 2 rests 0 year 1;land from 999 week 10 rests 0 year 60 60 60 60 60 60 60 60 leap 2 in 7 adds 9;"
            + "land from 0 week 2 rests 0 year 50 50;", 4);
        due("YEAR 1999 on 2000", x.day(0, 1999, 0, 0), -1);
        due("YEAR 1998 on 1999", x.day(0, 1998, 0, 0), 1999);
        // years of 489 and 480 days from 999 on: YEAR 2 begins on 1968
        due("on 1999", x.day(1, 2, 0, 31), 1999);
        due("on 2000", x.day(1, 2, 0, 32), -1);
        due("the last of YEAR 1999", x.day(1, 1999, 7, 59), -1);
        due("on the last DAY", x.day(2, 19, 1, 49), 1999);
        due("a YEAR's first day, on 2000", x.day(2, 20, 0, 0), -1);
    }

    private static void daysRefused() {
        Sentences.of(11, "-2: there is no such LAND, date");
        x = Due.of(TWO, 7);
        due("a leap YEAR's last day", x.day(0, 0, 1, 20), 30);
        due("no day behind it", x.day(0, 0, 1, 21), -2);
        due("the last day of another YEAR", x.day(0, 1, 1, 19), 60);
        due("no leap day in it", x.day(0, 1, 1, 20), -2);
        due("day -1", x.day(0, 0, 0, -1), -2);
        due("day 9", x.day(0, 0, 0, 9), 9);
        due("day 10", x.day(0, 0, 0, 10), -2);
        due("MONTH -1", x.day(0, 0, -1, 0), -2);
        due("MONTH 2", x.day(0, 0, 2, 0), -2);
        due("no date, behind all DAYS", x.day(0, 1999, 1, 20), -2);
        due("no MONTH, behind all DAYS", x.day(0, 1999, 2, 0), -2);
        due("far day", x.day(0, 0, 0, Integer.MAX_VALUE), -2);
        due("LAND -1", x.day(-1, 0, 0, 0), -2);
        due("LAND 2", x.day(2, 0, 0, 0), -2);
        due("no WAR", new TwoCalendars().day(0, 0, 0, 0), -2);
    }

    private static void mays() {
        Sentences.of(12, "Whether a LAND MAY fight on a DAY: 1, 0. -2: there are none such.");
        x = Due.of(TWO, 7);
        due("it MAY", x.may(0, 0), 1);
        due("it may not", x.may(0, 2), 0);
        due("ahead of its count", x.may(1, 2), 0);
        due("on its first DAY", x.may(1, 3), 1);
        for (int day : NO_DAYS) {
            due("DAY " + day, x.may(0, day), -2);
        }
        for (int land : new int[] {-1, 2, Integer.MIN_VALUE, Integer.MAX_VALUE}) {
            due("LAND " + land, x.may(land, 0), -2);
        }
        due("no WAR", new TwoCalendars().may(0, 0), -2);
    }

    private static void whys() {
        Sentences.of(13, "WHY not (II): 0: it MAY. -2 likewise.");
        x = Due.of(TWO, 7);
        due("it MAY", x.why(0, 0), 0);
        due("ahead of its count", x.why(1, 2), 1);
        for (int day : NO_DAYS) {
            due("DAY " + day, x.why(0, day), -2);
        }
        for (int land : new int[] {-1, 2, Integer.MIN_VALUE, Integer.MAX_VALUE}) {
            due("LAND " + land, x.why(land, 0), -2);
        }
        due("no WAR", new TwoCalendars().why(0, 0), -2);
    }

    private static void whos() {
        Sentences.of(14, "LANDS that MAY on a DAY, as bits. -2: there is none such, no WAR.");
        x = Due.of("war rain 0;" + EVER + EVER + "land from 9 week 2 rests 0 year 1;truce 0 from 5 to 1999;truce 1 from 7 to 1999;", 6);
        due("two of them", x.who(4), 3);
        due("the second", x.who(5), 2);
        due("none", x.who(7), 0);
        due("the third", x.who(9), 4);
        for (int day : NO_DAYS) {
            due("DAY " + day, x.who(day), -2);
        }
        x = Due.of("war rain 0;", 1);
        due("a WAR of no LANDS", x.who(0), 0);
        due("none such in it", x.who(2000), -2);
        due("no WAR", new TwoCalendars().who(0), -2);
    }
}
