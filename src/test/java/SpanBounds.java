/** The bounds of sets, SPANS and WAITS, of counts that meet, of saints and bridges: Term III, and the promises 15 to 28. */
final class SpanBounds {
    private static final int[] FAR = {Integer.MIN_VALUE, Integer.MAX_VALUE};
    private static final String EVER = "land from 0 week 2 rests 0 year 1;";
    // land 0 MAY on the even days from 6 on, land 1 to 1989
    private static final String PAIR = "war rain 0;land from 5 week 2 rests 1 year 9;land from 0 week 2 rests 0 year 9;"
        + "truce 1 from 1990 to 1999;";
    // DAYS that are no SPAN, two by two
    private static final int[][] NO_SPANS = {{5, 4}, {-1, 4}, {-2, -1}, {0, 2000}, {2000, 2000}, {2000, 1999}, {1999, 1998}, {0, -1},
        {Integer.MIN_VALUE, 0}, {0, Integer.MAX_VALUE}, {Integer.MIN_VALUE, Integer.MAX_VALUE}, {Integer.MAX_VALUE, Integer.MIN_VALUE}};

    private static TwoCalendars x = new TwoCalendars();

    private SpanBounds() {
    }

    static void run() {
        spans();
        waitsOne();
        nextDay();
        nextRefused();
        many();
        waits();
        waiting();
        shares();
        lowestTerms();
        meets();
        meetsRefused();
        periods();
        alikes();
        alikesRefused();
        years();
        comes();
        comesRefused();
        saintsOfDays();
        saintsOfYears();
        saintsOfStartingYears();
        saintsBeyond();
        saintsOfNone();
        saintsRefused();
        foundedLate();
        bridges();
        bridgesRefused();
        bridged();
    }

    private static void due(String call, long got, long want) {
        Due.is(call, got, want);
    }

    // ---- Term III ----

    private static void spans() {
        Sentences.ofTerm("III", "SPAN: DAYS from one to another one (no earlier), both too.");
        x = Due.of(PAIR, 4);
        due("one DAY", x.many(1, 6, 6), 1);
        due("an earlier one", x.many(1, 6, 5), -2);
        due("both ends", x.many(1, 6, 8), 2);
        due("without the first", x.many(1, 7, 8), 1);
        due("without the last", x.many(1, 6, 7), 1);
        due("the last DAY alone", x.many(2, 1999, 1999), 0);
        due("the first DAY alone", x.many(2, 0, 0), 1);
        due("all DAYS", x.many(2, 0, 1999), 1990);
    }

    private static void waitsOne() {
        Sentences.ofTerm("III", "WAIT: DAYS one behind the other on which one may not.");
        x = Due.of(PAIR, 4);
        due("ahead of its count", x.waits(1, 0, 6), 6);
        due("one DAY", x.waits(1, 6, 8), 1);
        due("two are not one behind the other", x.waits(1, 7, 9), 1);
        due("the last ones", x.waits(2, 0, 1999), 10);
    }

    // ---- the promises ----

    private static void nextDay() {
        Sentences.of(15, "NONE: none");
        x = Due.of(PAIR, 4);
        due("on that DAY", x.next(1, 6), 6);
        due("from the first DAY", x.next(1, 0), 6);
        due("behind it", x.next(1, 7), 8);
        due("the last one of LAND 0", x.next(1, 1998), 1998);
        due("none behind it", x.next(1, 1999), -1);
        due("the last one of both", x.next(3, 1988), 1988);
        due("none of both behind it", x.next(3, 1989), -1);
        due("the last one of LAND 1", x.next(2, 1989), 1989);
        due("none of LAND 1 behind it", x.next(2, 1990), -1);
        x = Due.of("war rain 0;" + EVER, 2);
        due("the last DAY", x.next(1, 1999), 1999);
    }

    private static void nextRefused() {
        Sentences.of(15, "-2: there are none such, no WAR");
        x = Due.of(PAIR, 4);
        int[] days = {-1, 2000, Integer.MIN_VALUE, Integer.MAX_VALUE};
        for (int day : days) {
            due("DAY " + day, x.next(1, day), -2);
        }
        due("set 3", x.next(3, 0), 6);
        due("no LANDS are a set", x.next(0, 1999), 1999);
        int[] sets = {-1, 4, 5, 7, 8, Integer.MIN_VALUE, Integer.MAX_VALUE};
        for (int set : sets) {
            due("set " + set, x.next(set, 0), -2);
        }
        x = Due.of("war rain 0;" + EVER + EVER + EVER, 4);
        due("set 7 of three", x.next(7, 0), 0);
        due("set 8 of three", x.next(8, 0), -2);
        x = Due.of("war rain 0;", 1);
        due("no LANDS", x.next(0, 5), 5);
        due("set 1 of none", x.next(1, 5), -2);
        due("no WAR", new TwoCalendars().next(0, 0), -2);
    }

    private static void many() {
        Sentences.of(16, "-2 likewise, no SPAN");
        x = Due.of(PAIR, 4);
        due("none of them", x.many(3, 0, 5), 0);
        due("LAND 0", x.many(1, 0, 1999), 997);
        due("both", x.many(3, 0, 1999), 992);
        due("set 4", x.many(4, 0, 1), -2);
        due("set -1", x.many(-1, 0, 1), -2);
        for (int[] no : NO_SPANS) {
            due("from " + no[0] + " to " + no[1], x.many(3, no[0], no[1]), -2);
        }
        due("no WAR", new TwoCalendars().many(0, 0, 0), -2);
    }

    private static void waits() {
        Sentences.of(17, "The longest WAIT of a set in a SPAN (DAYS on which not all MAY). -2 likewise.");
        x = Due.of(PAIR, 4);
        due("all MAY", x.waits(3, 6, 6), 0);
        due("not all", x.waits(3, 7, 7), 1);
        due("cut by the SPAN's begin", x.waits(1, 3, 1999), 3);
        due("cut by its end", x.waits(3, 1987, 1995), 7);
        due("all of it", x.waits(3, 1989, 1999), 11);
        due("set 4", x.waits(4, 0, 1), -2);
        due("set -1", x.waits(-1, 0, 1), -2);
        for (int[] no : NO_SPANS) {
            due("from " + no[0] + " to " + no[1], x.waits(3, no[0], no[1]), -2);
        }
        due("no WAR", new TwoCalendars().waits(0, 0, 0), -2);
    }

    private static void waiting() {
        Sentences.of(18, "The DAY on which the first such begins. NONE: there is none; -2 likewise.");
        x = Due.of(PAIR, 4);
        due("there is none", x.waiting(3, 6, 6), -1);
        due("on one DAY", x.waiting(3, 7, 7), 7);
        due("the first of several", x.waiting(1, 7, 12), 7);
        due("cut by the SPAN's begin", x.waiting(1, 3, 1999), 3);
        due("six and five DAYS", x.waiting(3, 0, 1993), 0);
        due("six and six", x.waiting(3, 0, 1994), 0);
        due("six and seven", x.waiting(3, 0, 1995), 1989);
        due("on the last DAY alone", x.waiting(3, 1999, 1999), 1999);
        due("there is none behind one", x.waiting(3, 8, 8), -1);
        due("set 4", x.waiting(4, 0, 1), -2);
        due("set -1", x.waiting(-1, 0, 1), -2);
        for (int[] no : NO_SPANS) {
            due("from " + no[0] + " to " + no[1], x.waiting(3, no[0], no[1]), -2);
        }
        due("no WAR", new TwoCalendars().waiting(0, 0, 0), -2);
    }

    private static void shares() {
        Sentences.of(19, "above (what 0), below (1). -2 likewise, no such what.");
        x = Due.of(PAIR, 4);
        due("above", x.share(1, 6, 8, 0), 2);
        due("below", x.share(1, 6, 8, 1), 3);
        for (int what : new int[] {-1, 2, Integer.MIN_VALUE, Integer.MAX_VALUE}) {
            due("what " + what, x.share(1, 6, 8, what), -2);
        }
        due("set 4", x.share(4, 0, 1, 0), -2);
        due("set -1", x.share(-1, 0, 1, 1), -2);
        for (int[] no : NO_SPANS) {
            due("from " + no[0] + " to " + no[1], x.share(3, no[0], no[1], 0), -2);
        }
        due("no WAR", new TwoCalendars().share(0, 0, 0, 0), -2);
    }

    private static void lowestTerms() {
        Sentences.ofTerm("VI", "FRACTIONS are told in lowest terms (0 / 1).");
        x = Due.of(PAIR, 4);
        due("nothing above", x.share(1, 0, 5, 0), 0);
        due("nothing below", x.share(1, 0, 5, 1), 1);
        due("all above", x.share(2, 0, 1989, 0), 1);
        due("all below", x.share(2, 0, 1989, 1), 1);
        due("a half above", x.share(1, 6, 1999, 0), 1);
        due("a half below", x.share(1, 6, 1999, 1), 2);
        due("199 of 200 above", x.share(2, 0, 1999, 0), 199);
        due("199 of 200 below", x.share(2, 0, 1999, 1), 200);
        due("997 of 2000 above", x.share(1, 0, 1999, 0), 997);
        due("997 of 2000 below", x.share(1, 0, 1999, 1), 2000);
    }

    private static void meets() {
        Sentences.of(20, "NONE: none ever (beyond the last DAY, too)");
        x = Due.of("war rain 0;land from 0 week 4 rests 0 year 5;land from 1 week 2 rests 0 year 7;land from 999 week 3 rests 0 year 9;", 4);
        due("an even DAY and an odd one", x.meets(0, 0, 1, 0, 0), -1);
        due("two even ones", x.meets(0, 0, 1, 1, 0), 4);
        due("turned round", x.meets(1, 0, 0, 0, 0), -1);
        due("in both counts", x.meets(0, 0, 2, 0, 0), 1008);
        due("on the first DAY of a count", x.meets(0, 3, 2, 0, 0), 999);
        due("on that DAY", x.meets(0, 0, 2, 0, 1992), 1992);
        due("beyond the last DAY", x.meets(0, 0, 2, 0, 1993), -1);
        due("on the last DAY", x.meets(0, 3, 2, 1, 1993), 1999);
        due("from the last DAY on", x.meets(0, 3, 2, 1, 1999), 1999);
        due("not on the last DAY", x.meets(0, 2, 2, 1, 1999), -1);
        x = Due.of("war rain 0;land from 0 week 4 rests 0 year 5;land from 0 week 5 rests 0 year 7;land from 0 week 10 rests 0 year 9;", 4);
        due("on 1980", x.meets(0, 0, 1, 0, 1961), 1980);
        due("on 2000", x.meets(0, 0, 1, 0, 1981), -1);
        due("on 2000 from the last DAY on", x.meets(1, 0, 2, 0, 1999), -1);
    }

    private static void meetsRefused() {
        Sentences.of(20, "-2: there are none such, one LAND twice");
        x = Due.of("war rain 0;land from 0 week 4 rests 0 year 5;land from 1 week 2 rests 0 year 7;", 3);
        due("weekday 3", x.meets(0, 3, 1, 0, 0), 3);
        due("weekday 4", x.meets(0, 4, 1, 0, 0), -2);
        due("weekday -1", x.meets(0, -1, 1, 0, 0), -2);
        due("weekly 1", x.meets(0, 0, 1, 1, 0), 4);
        due("weekly 2", x.meets(0, 0, 1, 2, 0), -2);
        due("weekly -1", x.meets(0, 0, 1, -1, 0), -2);
        due("its week is the other's", x.meets(1, 3, 0, 0, 0), -2);
        due("one LAND twice", x.meets(0, 0, 0, 0, 0), -2);
        due("the other one twice", x.meets(1, 0, 1, 0, 0), -2);
        due("LAND 2", x.meets(2, 0, 1, 0, 0), -2);
        due("LAND -1", x.meets(-1, 0, 1, 0, 0), -2);
        due("other 2", x.meets(0, 0, 2, 0, 0), -2);
        due("other -1", x.meets(0, 0, -1, 0, 0), -2);
        due("DAY -1", x.meets(0, 0, 1, 1, -1), -2);
        due("DAY 2000", x.meets(0, 0, 1, 1, 2000), -2);
        for (int far : FAR) {
            due("far weekday", x.meets(0, far, 1, 0, 0), -2);
            due("far weekly", x.meets(0, 0, 1, far, 0), -2);
            due("far DAY", x.meets(0, 0, 1, 1, far), -2);
        }
        due("no WAR", new TwoCalendars().meets(0, 0, 1, 0, 0), -2);
    }

    private static void periods() {
        Sentences.of(21, "the least days behind which weekday, MONTH, day and leap come again, from any DAY of its count. -2: there is none such.");
        x = Due.of("war rain 0;" + EVER + "land from 999 week 10 rests 0 year 60 60 60 60 60 60 60 60 leap 9 in 0 adds 9;"
            + "land from 0 week 7 rests 0 year 10 20 leap 2 in 1 adds 3;", 4);
        due("the least", x.period(0), 2);
        due("the greatest", x.period(1), 43290);
        due("the week in it", x.period(2), 63);
        due("LAND 3", x.period(3), -2);
        due("LAND -1", x.period(-1), -2);
        for (int far : FAR) {
            due("far LAND", x.period(far), -2);
        }
        x = Due.of("war rain 0;land from 0 week 2 rests 0 year 5 5;", 2);
        due("two MONTHS alike", x.period(0), 10);
        due("LAND 1", x.period(1), -2);
        due("no WAR", new TwoCalendars().period(0), -2);
    }

    private static void alikes() {
        Sentences.of(22, "NONE: none");
        x = Due.of("war rain 0;" + EVER + "land from 999 week 2 rests 0 year 60 40;land from 998 week 2 rests 0 year 60 40;", 4);
        due("ahead of a count", x.alike(0, 1, 0), 999);
        due("on that DAY", x.alike(0, 1, 999), 999);
        due("behind it", x.alike(0, 1, 1000), 1099);
        due("on the last DAY", x.alike(0, 1, 1900), 1999);
        due("from the last DAY on", x.alike(1, 0, 1999), 1999);
        due("none on the last DAY", x.alike(0, 2, 1999), -1);
        due("the last one", x.alike(2, 0, 1998), 1998);
        due("never", x.alike(1, 2, 0), -1);
        x = Due.of("war rain 0;land from 0 week 2 rests 0 year 10;land from 0 week 2 rests 0 year 20;land from 0 week 2 rests 0 year 40;", 4);
        due("the last one of YEARS of 10 and 20", x.alike(0, 1, 1980), 1980);
        due("its last DAY", x.alike(0, 1, 1989), 1989);
        due("on 2000", x.alike(0, 1, 1990), -1);
        due("on 2000, of 20 and 40", x.alike(1, 2, 1999), -1);
    }

    private static void alikesRefused() {
        Sentences.of(22, "-2: there are none such, one twice");
        x = Due.of("war rain 0;" + EVER + EVER, 3);
        due("one twice", x.alike(0, 0, 0), -2);
        due("the other twice", x.alike(1, 1, 0), -2);
        due("both", x.alike(0, 1, 0), 0);
        due("LAND 2", x.alike(2, 0, 0), -2);
        due("LAND -1", x.alike(-1, 0, 0), -2);
        due("other 2", x.alike(0, 2, 0), -2);
        due("other -1", x.alike(0, -1, 0), -2);
        due("DAY -1", x.alike(0, 1, -1), -2);
        due("DAY 1999", x.alike(0, 1, 1999), 1999);
        due("DAY 2000", x.alike(0, 1, 2000), -2);
        for (int far : FAR) {
            due("far DAY", x.alike(0, 1, far), -2);
        }
        due("no WAR", new TwoCalendars().alike(0, 1, 0), -2);
    }

    private static void years() {
        Sentences.of(23, "LANDS whose YEAR begins on a DAY, as bits. -2: there is none such, no WAR.");
        // land 1: years of 14 and 5 days by turns
        x = Due.of("war rain 0;land from 3 week 2 rests 0 year 9;land from 0 week 2 rests 0 year 3 2 leap 2 in 0 adds 9;" + EVER, 4);
        int[] days = {0, 2, 3, 4, 11, 12, 13, 14, 15, 18, 19, 20, 21, 33};
        int[] begun = {6, 4, 5, 4, 4, 5, 4, 6, 4, 4, 6, 4, 5, 6};
        for (int i = 0; i < days.length; i++) {
            due("on " + days[i], x.years(days[i]), begun[i]);
        }
        due("on 1999", x.years(1999), 4);
        due("on 2000", x.years(2000), -2);
        due("on -1", x.years(-1), -2);
        for (int far : FAR) {
            due("far DAY", x.years(far), -2);
        }
        x = Due.of("war rain 0;", 1);
        due("no LANDS", x.years(0), 0);
        due("no WAR", new TwoCalendars().years(0), -2);
    }

    private static void comes() {
        Sentences.of(24, "NONE: none (to the last DAY), it is ahead of its count");
        x = Due.of("war rain 0;land from 10 week 2 rests 0 year 10;land from 0 week 9 rests 0 year 60 60 60 60 60 60 60 60;", 3);
        due("ahead of its count", x.comes(0, 9), -1);
        due("the first DAY, too", x.comes(0, 0), -1);
        due("its first DAY", x.comes(0, 10), 20);
        due("on the last DAY", x.comes(0, 1989), 1999);
        due("beyond it", x.comes(0, 1990), -1);
        due("behind the last DAY", x.comes(0, 1999), -1);
        due("three years later", x.comes(1, 559), 1999);
        due("on 2000", x.comes(1, 560), -1);
    }

    private static void comesRefused() {
        Sentences.of(24, "-2: there are none such");
        x = Due.of("war rain 0;" + EVER, 2);
        due("DAY 0", x.comes(0, 0), 2);
        due("DAY -1", x.comes(0, -1), -2);
        due("DAY 2000", x.comes(0, 2000), -2);
        due("LAND 1", x.comes(1, 0), -2);
        due("LAND -1", x.comes(-1, 0), -2);
        for (int far : FAR) {
            due("far DAY", x.comes(0, far), -2);
            due("far LAND", x.comes(far, 0), -2);
        }
        due("no WAR", new TwoCalendars().comes(0, 0), -2);
    }

    private static void saint(int land, int month, int year, int years, int n, int fewest, long days) {
        String call = "(" + land + ", " + month + ", " + year + ", " + years + ", " + n + ")";
        due("saints" + call, x.saints(land, month, year, years, n), fewest);
        due("founded" + call, x.founded(land, month, year, years, n), days);
    }

    private static void saintsOfDays() {
        Sentences.of(25, "the fewest FEASTS of n (1 .. 9) days, begun in a MONTH");
        x = Due.of("war rain 0;land from 0 week 2 rests 0 year 9 10;", 2);
        saint(0, 0, 0, 1, 0, -2, -2);
        saint(0, 0, 0, 1, 1, 9, 511);
        saint(0, 0, 0, 1, 8, 2, 1 | 1 << 8);
        saint(0, 0, 0, 1, 9, 1, 1);
        saint(0, 0, 0, 1, 10, -2, -2);
        saint(0, 1, 0, 1, 9, 2, 1 | 1 << 9);
        saint(0, 0, 0, 1, Integer.MAX_VALUE, -2, -2);
        saint(0, 0, 0, 1, Integer.MIN_VALUE, -2, -2);
        x = Due.of("war rain 0;land from 0 week 2 rests 0 year 60;", 2);
        saint(0, 0, 0, 1, 1, 60, (1L << 60) - 1);
    }

    private static void saintsOfYears() {
        Sentences.of(25, "in so many YEARS (1 .. 20) from a YEAR on");
        // land 0 MAY on DAY 195 alone: YEAR 19, day 5
        x = Due.of("war rain 0;land from 0 week 2 rests 0 year 10;truce 0 from 0 to 194;truce 0 from 196 to 1999;", 4);
        saint(0, 0, 0, 0, 1, -2, -2);
        saint(0, 0, 19, 1, 1, 1, 1 << 5);
        saint(0, 0, 18, 1, 1, 0, 0);
        saint(0, 0, 18, 2, 1, 1, 1 << 5);
        saint(0, 0, 20, 1, 1, 0, 0);
        saint(0, 0, 0, 19, 1, 0, 0);
        saint(0, 0, 0, 20, 1, 1, 1 << 5);
        saint(0, 0, 0, 21, 1, -2, -2);
        saint(0, 0, 0, -1, 1, -2, -2);
        saint(0, 0, 0, Integer.MAX_VALUE, 1, -2, -2);
        saint(0, 0, 0, Integer.MIN_VALUE, 1, -2, -2);
        // a leap YEAR among them or not
        x = Due.of("war rain 0;land from 0 week 2 rests 0 year 4 leap 2 in 0 adds 2;", 2);
        saint(0, 0, 1, 1, 3, 2, 1 | 1 << 3);
        saint(0, 0, 1, 1, 4, 1, 1);
        saint(0, 0, 1, 2, 4, 2, 1 | 1 << 3);
    }

    private static void saintsOfStartingYears() {
        Sentences.of(25, "from a YEAR on (0 .. 1999; DAYS to the last one alone)");
        x = Due.of("war rain 0;" + EVER + "land from 1 week 2 rests 0 year 1;land from 0 week 2 rests 0 year 60;", 4);
        saint(0, 0, -1, 1, 1, -2, -2);
        saint(0, 0, 0, 1, 1, 1, 1);
        saint(0, 0, 1999, 1, 1, 1, 1);
        saint(0, 0, 1999, 20, 9, 1, 1);
        saint(0, 0, 2000, 1, 1, -2, -2);
        saint(1, 0, 1998, 1, 1, 1, 1);
        saint(1, 0, 1999, 20, 1, 0, 0);
        // YEAR 33 has 20 DAYS, YEAR 34 none
        saint(2, 0, 33, 1, 9, 3, 1 | 1 << 9 | 1 << 18);
        saint(2, 0, 33, 20, 9, 3, 1 | 1 << 9 | 1 << 18);
        saint(2, 0, 34, 20, 9, 0, 0);
        saint(2, 0, 1999, 20, 9, 0, 0);
        for (int far : FAR) {
            saint(0, 0, far, 1, 1, -2, -2);
            saint(0, 0, far, 20, 1, -2, -2);
        }
    }

    private static void saintsBeyond() {
        Sentences.of(25, "(with what there is; what they reach beyond that MONTH is not looked at)");
        x = Due.of("war rain 0;land from 0 week 10 rests 1 year 10 10;feast 0 0 4 for 2;truce 0 from 8 to 9;", 4);
        saint(0, 0, 0, 1, 1, 5, 1 << 1 | 1 << 2 | 1 << 3 | 1 << 6 | 1 << 7);
        saint(0, 0, 0, 1, 3, 2, 1 << 1 | 1 << 6);
        saint(0, 0, 0, 2, 3, 3, 1 << 1 | 1 << 6 | 1 << 9);
        // one of nine days on the second day would be on from the YEAR ahead, too
        x = Due.of("war rain 0;land from 0 week 2 rests 0 year 2 leap 2 in 0 adds 8;", 2);
        saint(0, 0, 2, 1, 9, 2, 3);
        saint(0, 0, 0, 1, 9, 2, 3);
    }

    private static void saintsOfNone() {
        Sentences.of(25, "NONE: no such do");
        x = Due.of("war rain 0;land from 0 week 2 rests 0 year 10 leap 2 in 0 adds 8;land from 0 week 2 rests 0 year 10 leap 2 in 0 adds 9;"
            + "land from 0 week 2 rests 0 year 10 5 leap 2 in 1 adds 1;", 4);
        saint(0, 0, 0, 1, 9, 2, 1 | 1 << 9);
        saint(0, 0, 0, 1, 8, -1, -1);
        saint(1, 0, 0, 1, 9, -1, -1);
        saint(1, 0, 1, 1, 9, 2, 1 | 1 << 9);
        saint(1, 0, 1, 2, 9, -1, -1);
        saint(2, 1, 0, 1, 1, -1, -1);
        saint(2, 1, 0, 1, 2, 3, 1 | 1 << 2 | 1 << 4);
        saint(2, 0, 0, 1, 1, 10, 1023);
        // the leap days are rests and in a truce: none is left there
        x = Due.of("war rain 0;land from 0 week 2 rests 0 year 3 leap 2 in 0 adds 9;truce 0 from 3 to 11;", 3);
        saint(0, 0, 0, 1, 1, 3, 7);
        saint(0, 0, 0, 3, 1, -1, -1);
    }

    private static void saintsRefused() {
        Sentences.of(25, "-2: there are none such");
        x = Due.of("war rain 0;land from 0 week 2 rests 0 year 3 4;" + EVER, 3);
        saint(0, 1, 0, 1, 1, 4, 15);
        saint(0, 2, 0, 1, 1, -2, -2);
        saint(0, -1, 0, 1, 1, -2, -2);
        saint(1, 0, 0, 1, 1, 1, 1);
        saint(1, 1, 0, 1, 1, -2, -2);
        saint(2, 0, 0, 1, 1, -2, -2);
        saint(-1, 0, 0, 1, 1, -2, -2);
        for (int far : FAR) {
            saint(far, 0, 0, 1, 1, -2, -2);
            saint(0, far, 0, 1, 1, -2, -2);
        }
        x = new TwoCalendars();
        saint(0, 0, 0, 1, 1, -2, -2);
    }

    private static void foundedLate() {
        Sentences.of(26, "each as late as it can: on the first day that is left, if it may begin then, else on the last one of the MONTH (without leap)."
            + " NONE, -2 likewise.");
        // MAY on days 1, 3, .. of 5 and 4 leap days
        x = Due.of("war rain 0;land from 0 week 10 rests 341 year 5 1 leap 2 in 0 adds 4;", 2);
        due("the days, asked first", x.founded(0, 0, 0, 1, 4), 1 << 1 | 1 << 4);
        due("the days of another length", x.founded(0, 0, 0, 1, 7), 1 << 1);
        due("their number then", x.saints(0, 0, 0, 1, 4), 2);
        saint(0, 0, 0, 1, 1, -1, -1);
        saint(0, 0, 0, 1, 2, -1, -1);
        saint(0, 0, 0, 1, 3, -1, -1);
        saint(0, 0, 0, 1, 4, 2, 1 << 1 | 1 << 4);
        saint(0, 0, 0, 1, 6, 2, 1 << 1 | 1 << 4);
        saint(0, 0, 0, 1, 7, 1, 1 << 1);
        saint(0, 0, 0, 1, 9, 1, 1 << 1);
        saint(0, 0, 0, 1, 10, -2, -2);
        saint(0, 2, 0, 1, 1, -2, -2);
        // the first day left is the last one of the MONTH, or a leap day
        x = Due.of("war rain 0;land from 0 week 10 rests 0 year 5 1 leap 2 in 0 adds 4;truce 0 from 0 to 3;truce 0 from 10 to 1999;", 4);
        saint(0, 0, 0, 1, 4, -1, -1);
        saint(0, 0, 0, 1, 5, 1, 1 << 4);
        due("the last one is in the TRUCE, too", x.grant(0, 4, 4), 2);
        saint(0, 0, 0, 1, 5, 1, 1 << 4);
        due("all but the last leap day", x.grant(0, 5, 7), 3);
        saint(0, 0, 0, 1, 4, -1, -1);
        saint(0, 0, 0, 1, 5, 1, 1 << 4);
        due("all of them", x.grant(0, 8, 8), 4);
        saint(0, 0, 0, 1, 1, 0, 0);
        // behind many feasts the last day of a long MONTH
        x = Due.of("war rain 0;land from 0 week 10 rests 0 year 60;truce 0 from 0 to 58;truce 0 from 60 to 1999;", 4);
        saint(0, 0, 0, 20, 9, 1, 1L << 59);
    }

    private static void bridges() {
        Sentences.of(27, "the longest WAIT of a LAND in a SPAN, if n (0 .. 9) more DAYS of it were no DAYS to fight");
        x = Due.of("war rain 0;" + EVER + "land from 0 week 10 rests 3 year 60;", 3);
        due("n -1", x.bridge(0, 0, 1999, -1), -2);
        due("n 0", x.bridge(0, 0, 1999, 0), 0);
        due("n 1", x.bridge(0, 0, 1999, 1), 1);
        due("n 9", x.bridge(0, 0, 1999, 9), 9);
        due("n 10", x.bridge(0, 0, 1999, 10), -2);
        due("nine DAYS of nine", x.bridge(0, 5, 13, 9), 9);
        due("nine DAYS of ten", x.bridge(0, 5, 14, 9), 9);
        due("more than there are", x.bridge(0, 5, 5, 9), 1);
        due("n 7 of rests", x.bridge(1, 0, 1999, 7), 9);
        due("n 8 of rests", x.bridge(1, 0, 1999, 8), 12);
        due("n 9 of rests", x.bridge(1, 0, 1999, 9), 13);
        for (int far : FAR) {
            due("far n", x.bridge(0, 0, 1999, far), -2);
        }
    }

    private static void bridgesRefused() {
        Sentences.of(27, "-2: there are none such");
        x = Due.of("war rain 0;" + EVER, 2);
        due("LAND 0", x.bridge(0, 0, 0, 0), 0);
        due("LAND 1", x.bridge(1, 0, 0, 0), -2);
        due("LAND -1", x.bridge(-1, 0, 0, 0), -2);
        for (int far : FAR) {
            due("far LAND", x.bridge(far, 0, 0, 0), -2);
        }
        for (int[] no : NO_SPANS) {
            due("from " + no[0] + " to " + no[1], x.bridge(0, no[0], no[1], 1), -2);
        }
        due("no WAR", new TwoCalendars().bridge(0, 0, 0, 0), -2);
    }

    private static void bridged() {
        Sentences.of(28, "The DAY on which the first such begins. NONE: it is 0; -2 likewise.");
        x = Due.of("war rain 0;" + EVER + "land from 0 week 10 rests 3 year 60;", 3);
        due("it is 0", x.bridged(0, 0, 1999, 0), -1);
        due("it is 1", x.bridged(0, 7, 1999, 1), 7);
        due("the first of several", x.bridged(1, 2, 1999, 0), 10);
        due("with eight more", x.bridged(1, 1, 1999, 8), 10);
        due("all of it", x.bridged(1, 0, 11, 8), 0);
        due("the last DAY", x.bridged(0, 1999, 1999, 9), 1999);
        due("n -1", x.bridged(0, 0, 1999, -1), -2);
        due("n 10", x.bridged(0, 0, 1999, 10), -2);
        due("LAND 2", x.bridged(2, 0, 0, 0), -2);
        due("LAND -1", x.bridged(-1, 0, 0, 0), -2);
        for (int[] no : NO_SPANS) {
            due("from " + no[0] + " to " + no[1], x.bridged(0, no[0], no[1], 1), -2);
        }
        due("no WAR", new TwoCalendars().bridged(0, 0, 0, 0), -2);
    }
}
