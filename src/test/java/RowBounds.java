/** The bounds of SLOTS, of orders and of what was seen in their rows: the promises 29 to 37 and 60 to 62. */
final class RowBounds {
    private static final int[] FAR = {Integer.MIN_VALUE, Integer.MAX_VALUE};
    private static final int[] NO_SLOTS = {-1, 4, Integer.MIN_VALUE, Integer.MAX_VALUE};
    private static final String EVER = "land from 0 week 2 rests 0 year 1;";
    // a LAND whose YEAR is the DAY shows any number of a row that is a DAY
    private static final String SHOWN = "war rain 0;" + EVER;
    // land 0 rests on odd days; land 1 has years of 31 and 30 days by turns from 5 on
    private static final String TWO = "war rain 0;land from 0 week 2 rests 2 year 10 10;land from 5 week 7 rests 0 year 10 20 leap 2 in 1 adds 1;";

    private static TwoCalendars x = new TwoCalendars();

    private RowBounds() {
    }

    static void run() {
        slots();
        oldest();
        noOrders();
        ordersRefused();
        ordersBehindAll();
        ordersOfNothing();
        older();
        apart();
        idle();
        fits();
        fitsRefused();
        fitsOfNothing();
        fit();
        sure();
        ask();
        leaves();
        rows();
        rowsRefused();
        rowsBelow();
        writes();
        writesRefused();
        pastes();
        pastesRefused();
        pastesBeyond();
    }

    private static void due(String call, long got, long want) {
        Due.is(call, got, want);
    }

    // ---- what the tests below share ----

    private static void fill(int slot, int width, long... numbers) {
        due("row", x.row(slot, width, numbers.length), 0);
        for (int i = 0; i < numbers.length; i++) {
            due("write", x.write(slot, i, numbers[i]), 0);
        }
    }

    /** A number of a row in a WAR whose LAND 0 shows it, NONE if it is no DAY; by way of SLOT 3. */
    private static int number(int slot, int width, int i) {
        due("row to show a number", x.row(3, width, 3), 0);
        due("the number", x.paste(slot, i, 3, 2, 1), 0);
        return x.fit(3, 0, 1999, 0);
    }

    private static void shows(String what, int slot, int width, int... numbers) {
        for (int i = 0; i < numbers.length; i++) {
            due(what + ", number " + i, number(slot, width, i), numbers[i]);
        }
        due(what + ", no more", x.write(slot, numbers.length, 0), -7);
    }

    // ---- Term I ----

    private static void slots() {
        Sentences.ofTerm("I", "SLOTS 0 .. 3 have rows of numbers of 1, 2, 4 or 8 bytes (WIDTH 0 .. 3), at most 60, or nothing.");
        x = Due.of(SHOWN, 2);
        due("no rows", x.count(7), 0);
        for (int slot = 0; slot < 4; slot++) {
            due("nothing in SLOT " + slot, x.write(slot, 0, 0), -6);
            due("a row of 60 in SLOT " + slot, x.row(slot, slot, 60), 0);
            due("its last number", x.write(slot, 59, 7), 0);
            due("rows", x.count(7), slot + 1);
        }
        // the least that is cut away, the greatest that is kept, as numbers with a sign
        long[] cut = {1L << 8, 1L << 16, 1L << 32};
        for (int width = 0; width < 3; width++) {
            fill(0, width, cut[width] + 5, cut[width] - 1, -cut[width] + 9, (cut[width] >> 1) - 1, cut[width] >> 1);
            shows("WIDTH " + width, 0, width, 5, -1, 9, width == 0 ? 127 : -1, -1);
        }
        fill(0, 1, cut[0] + 5, 1999);
        shows("two bytes keep more than one", 0, 1, 261, 1999);
        fill(0, 2, cut[1] + 5);
        shows("four bytes keep more than two", 0, 2, -1);
        fill(0, 3, cut[2] + 5, Long.MIN_VALUE, Long.MAX_VALUE, 8);
        shows("eight bytes keep more than four", 0, 3, -1, -1, -1, 8);
    }

    // ---- orders ----

    private static void all(String what, int slot, int want) {
        due("oldest " + what, x.oldest(slot), want);
        due("older " + what, x.older(slot, 0), want);
        due("apart " + what, x.apart(slot), want);
        due("idle " + what, x.idle(slot), want);
    }

    private static void oldest() {
        Sentences.of(29, "the place (from 0) of the oldest, the first of several");
        x = Due.of(TWO, 3);
        fill(0, 1, 0, 0, 0, 6, 1, 0, 0, 0, 0, 0, 0, 5, 1, 0, 0, 1);
        due("two on one DAY", x.oldest(0), 1);
        fill(0, 1, 0, 0, 0, 5);
        due("one", x.oldest(0), 0);
        due("fifteen", x.row(0, 1, 60), 0);
        due("fifteen on one DAY", x.oldest(0), 0);
        for (int i = 0; i < 14; i++) {
            due("write", x.write(0, 4 * i + 3, 1), 0);
        }
        due("the fifteenth", x.oldest(0), 14);
    }

    private static void noOrders() {
        Sentences.of(29, "NONE: there are none");
        x = Due.of(TWO, 3);
        for (int width = 0; width < 4; width++) {
            due("a row of no numbers", x.row(0, width, 0), 0);
            due("oldest", x.oldest(0), -1);
        }
        due("a row of four", x.row(0, 0, 4), 0);
        due("oldest of one", x.oldest(0), 0);
    }

    private static void ordersRefused() {
        Sentences.of(29, "-2: there is no such SLOT, no WAR, a number is none such");
        x = Due.of(TWO, 3);
        for (int slot : NO_SLOTS) {
            all("of SLOT " + slot, slot, -2);
        }
        long far = 1L << 32;
        long[][] wrong = {{-1, 0, 0, 0}, {2, 0, 0, 0}, {far, 0, 0, 0}, {0, -1, 0, 0}, {0, 2000, 0, 0}, {0, far, 0, 0}, {0, 0, -1, 0},
            {0, 0, 2, 0}, {0, 0, far, 0}, {0, 0, 0, -1}, {0, 0, 0, 10}, {0, 0, 0, far}, {1, 0, 1, 21}, {1, 1, 1, 20},
            {Long.MIN_VALUE, 0, 0, 0}, {0, Long.MAX_VALUE, 0, 0}};
        for (long[] order : wrong) {
            fill(0, 3, 0, 0, 0, 0, order[0], order[1], order[2], order[3]);
            all("with " + order[0] + " " + order[1] + " " + order[2] + " " + order[3], 0, -2);
        }
        fill(0, 3, 0, 0, 0, 9, 1, 0, 1, 20, 1, 1, 1, 19, 0, 99, 1, 9);
        due("all are such", x.oldest(0), 0);
        due("no WAR then", x.war(), 0);
        all("without a WAR", 0, -2);
        all("without a WAR and a row", 1, -2);
    }

    private static void ordersBehindAll() {
        Sentences.of(29, "a date behind all DAYS (asked last), not four each");
        x = Due.of("war rain 0;" + EVER + "land from 1 week 2 rests 0 year 1;", 3);
        fill(0, 1, 0, 1999, 0, 0);
        due("on the last DAY", x.oldest(0), 0);
        due("so many older", x.older(0, 0), 0);
        fill(0, 1, 0, 1999, 0, 0, 1, 1998, 0, 0);
        due("two on the last DAY", x.apart(0), 0);
        fill(0, 1, 0, 1999, 0, 0, 1, 1999, 0, 0);
        all("with one behind it", 0, -2);
        fill(0, 1, 1, 1999, 0, 0);
        all("with that alone", 0, -2);
        int[] lengths = {1, 2, 3, 5, 6, 7, 9, 57, 58, 59};
        for (int n : lengths) {
            due("row of " + n, x.row(0, 0, n), 0);
            all("of " + n + " numbers", 0, -2);
        }
        for (int n = 4; n <= 60; n += 28) {
            due("row of " + n, x.row(0, 0, n), 0);
            due("oldest of " + n + " numbers", x.oldest(0), 0);
        }
        due("SLOT 1 has nothing, which is asked ahead of what a row has", x.oldest(1), -6);
    }

    private static void ordersOfNothing() {
        Sentences.of(29, "-6: it has nothing");
        x = Due.of(TWO, 3);
        due("a row in SLOT 1", x.row(1, 0, 4), 0);
        for (int slot = 0; slot < 4; slot++) {
            due("oldest of SLOT " + slot, x.oldest(slot), slot == 1 ? 0 : -6);
        }
        due("a refused row", x.row(0, 0, -1), -3);
        due("has nothing still", x.oldest(0), -6);
        due("another refused row", x.row(0, 0, 61), -2);
        due("has nothing even so", x.oldest(0), -6);
    }

    private static void older() {
        Sentences.of(30, "How many of them are older than the i-th. NONE: there is none such; -2, -6 likewise.");
        x = Due.of(TWO, 3);
        fill(0, 1, 0, 0, 0, 6, 1, 0, 0, 0, 0, 0, 0, 5, 1, 0, 0, 1);
        int[] older = {2, 0, 0, 2};
        for (int i = 0; i < 4; i++) {
            due("older(0, " + i + ")", x.older(0, i), older[i]);
        }
        fill(1, 1, 0, 0, 0, 0, 0, 0, 0, 2, 0, 0, 0, 1);
        int[] behindTheFirst = {0, 2, 1};
        for (int i = 0; i < 3; i++) {
            due("older(1, " + i + ")", x.older(1, i), behindTheFirst[i]);
        }
        due("none such above", x.older(0, 4), -1);
        due("none such below", x.older(0, -1), -1);
        for (int far : FAR) {
            due("none such far", x.older(0, far), -1);
        }
        due("no orders", x.row(1, 0, 0), 0);
        due("of no orders", x.older(1, 0), -1);
        due("nothing", x.older(2, 0), -6);
        for (int slot : NO_SLOTS) {
            due("SLOT " + slot, x.older(slot, 0), -2);
        }
        due("not four each", x.row(1, 0, 5), 0);
        due("of those", x.older(1, 0), -2);
        due("no WAR then", x.war(), 0);
        due("no WAR", x.older(0, 0), -2);
    }

    private static void apart() {
        Sentences.of(31, "DAYS from the oldest to the youngest. NONE: there are none; -2, -6 likewise.");
        x = Due.of("war rain 0;" + EVER + "land from 999 week 2 rests 0 year 1;", 3);
        due("no orders", x.row(0, 1, 0), 0);
        due("there are none", x.apart(0), -1);
        fill(0, 1, 0, 1999, 0, 0);
        due("one", x.apart(0), 0);
        fill(0, 1, 0, 1999, 0, 0, 1, 1000, 0, 0);
        due("two on one DAY", x.apart(0), 0);
        fill(0, 1, 0, 1998, 0, 0, 1, 1000, 0, 0);
        due("two on DAYS one behind the other", x.apart(0), 1);
        fill(0, 1, 1, 0, 0, 0, 0, 1999, 0, 0, 0, 0, 0, 0, 1, 5, 0, 0);
        due("from the first DAY to the last", x.apart(0), 1999);
        due("nothing", x.apart(1), -6);
        for (int slot : NO_SLOTS) {
            due("SLOT " + slot, x.apart(slot), -2);
        }
        due("not four each", x.row(1, 0, 3), 0);
        due("of those", x.apart(1), -2);
        due("no WAR", new TwoCalendars().apart(0), -2);
    }

    private static void idle() {
        Sentences.of(32, "How many were dated on a DAY on which who dated them may not fight. -2, -6 likewise.");
        x = Due.of(TWO, 3);
        due("no orders", x.row(0, 1, 0), 0);
        due("none of none", x.idle(0), 0);
        fill(0, 1, 0, 0, 0, 6, 1, 0, 0, 0, 0, 0, 0, 5, 1, 0, 0, 1);
        due("one", x.idle(0), 1);
        due("a TRUCE of the other one", x.grant(1, 5, 5), 0);
        due("two", x.idle(0), 2);
        due("to the next DAY", x.grant(1, 6, 6), 1);
        due("three", x.idle(0), 3);
        fill(0, 1, 0, 0, 0, 5);
        due("one of one", x.idle(0), 1);
        due("fifteen", x.row(0, 1, 60), 0);
        due("none of fifteen", x.idle(0), 0);
        due("the last of fifteen", x.write(0, 59, 1), 0);
        due("one of fifteen", x.idle(0), 1);
        fill(0, 1, 0, 0, 0, 0);
        due("none of one behind them", x.idle(0), 0);
        due("nothing", x.idle(1), -6);
        for (int slot : NO_SLOTS) {
            due("SLOT " + slot, x.idle(slot), -2);
        }
        due("not four each", x.row(1, 0, 59), 0);
        due("of those", x.idle(1), -2);
        due("no WAR", new TwoCalendars().idle(0), -2);
    }

    // ---- what was seen ----

    private static void seen(String what, int slot, int from, int to, int want) {
        due("fits " + what, x.fits(slot, from, to), want);
        due("fit " + what, x.fit(slot, from, to, 0), want);
        due("sure " + what, x.sure(slot, from, to, 0), want);
        due("some " + what, x.sure(slot, from, to, 1), want);
        due("ask " + what, x.ask(slot, from, to), want);
        due("leaves " + what, x.leaves(slot, from, to), want);
    }

    private static void fits() {
        Sentences.of(33, "DAYS of a SPAN that fit all (a DAY ahead of a count fits no 0 .. 3 of it)");
        x = Due.of(TWO, 3);
        for (int what = 0; what < 4; what++) {
            for (int which = -1; which < 1; which++) {
                fill(0, 0, 1, what, which);
                due("ahead, what " + what + " is " + which, x.fits(0, 0, 4), 0);
                due("to its first DAY, what " + what + " is " + which, x.fits(0, 0, 5), which + 1);
            }
        }
        fill(0, 0, 1, 4, 0);
        due("ahead it may not", x.fits(0, 0, 4), 5);
        due("to its first DAY", x.fits(0, 0, 5), 5);
        fill(0, 0, 1, 4, 1);
        due("from its first DAY", x.fits(0, 0, 5), 1);
        fill(0, 0, 1, 4, 2);
        due("it may twice", x.fits(0, 0, 1999), 0);
        fill(0, 3, 1, 4, (1L << 32) + 1);
        due("far which", x.fits(0, 0, 1999), 0);
        due("no numbers", x.row(0, 0, 0), 0);
        due("all DAYS", x.fits(0, 0, 1999), 2000);
        due("one DAY", x.fits(0, 7, 7), 1);
        due("twenty", x.row(0, 0, 60), 0);
        due("all of YEAR 0", x.fits(0, 0, 1999), 20);
        due("the last of twenty", x.write(0, 58, 1), 0);
        due("in MONTH 0", x.fits(0, 0, 1999), 10);
    }

    private static void fitsRefused() {
        Sentences.of(33, "-2: there is no such SLOT, SPAN, no WAR, a LAND, what is none such (asked last), not three each");
        x = Due.of(TWO, 3);
        due("a row", x.row(0, 3, 6), 0);
        for (int slot : NO_SLOTS) {
            seen("of SLOT " + slot, slot, 0, 9, -2);
        }
        int[][] noSpans = {{5, 4}, {-1, 5}, {0, 2000}, {2000, 2000}, {0, Integer.MAX_VALUE}, {Integer.MIN_VALUE, 0}};
        for (int[] no : noSpans) {
            seen("from " + no[0] + " to " + no[1], 0, no[0], no[1], -2);
        }
        long far = 1L << 32;
        long[][] wrong = {{-1, 0}, {2, 0}, {far, 0}, {0, -1}, {0, 5}, {0, far}, {Long.MIN_VALUE, 0}, {0, Long.MAX_VALUE}};
        for (long[] sight : wrong) {
            fill(0, 3, 0, 0, 0, sight[0], sight[1], 0);
            seen("with " + sight[0] + " " + sight[1], 0, 0, 9, -2);
        }
        fill(0, 3, 1, 4, 0, 0, 4, 1);
        due("all are such", x.fits(0, 0, 9), 3);
        for (int n : new int[] {1, 2, 4, 5, 58, 59}) {
            due("row of " + n, x.row(0, 0, n), 0);
            seen("of " + n + " numbers", 0, 0, 9, -2);
        }
        due("row of 3", x.row(0, 0, 3), 0);
        due("of three", x.fits(0, 0, 9), 10);
        due("no WAR then", x.war(), 0);
        seen("without a WAR", 0, 0, 9, -2);
        seen("without a WAR and a row", 1, 0, 9, -2);
    }

    private static void fitsOfNothing() {
        Sentences.of(33, "-6: it has nothing");
        x = Due.of(TWO, 3);
        due("a row in SLOT 2", x.row(2, 0, 0), 0);
        for (int slot = 0; slot < 4; slot++) {
            due("fits of SLOT " + slot, x.fits(slot, 0, 9), slot == 2 ? 10 : -6);
        }
        seen("of nothing", 1, 0, 9, -6);
    }

    private static void fit() {
        Sentences.of(34, "The i-th (from 0) of these. NONE: there is none such; -2, -6 likewise.");
        x = Due.of(TWO, 3);
        fill(0, 0, 0, 4, 1);
        due("the first", x.fit(0, 1, 9, 0), 2);
        due("the last", x.fit(0, 1, 9, 3), 8);
        due("none such above", x.fit(0, 1, 9, 4), -1);
        due("none such below", x.fit(0, 1, 9, -1), -1);
        for (int far : FAR) {
            due("none such far", x.fit(0, 1, 9, far), -1);
        }
        due("on the SPAN's ends", x.fit(0, 2, 8, 3), 8);
        due("none in the SPAN", x.fit(0, 1, 1, 0), -1);
        due("no numbers", x.row(0, 0, 0), 0);
        due("the last DAY", x.fit(0, 0, 1999, 1999), 1999);
        due("none behind it", x.fit(0, 0, 1999, 2000), -1);
        due("nothing", x.fit(1, 0, 9, 0), -6);
        due("SLOT 4", x.fit(4, 0, 9, 0), -2);
        due("no SPAN", x.fit(0, 9, 8, 0), -2);
        due("not three each", x.row(0, 0, 4), 0);
        due("of those", x.fit(0, 0, 9, 0), -2);
        due("no WAR", new TwoCalendars().fit(0, 0, 9, 0), -2);
    }

    private static void sure() {
        Sentences.of(35, "LANDS that MAY on all of these (what 0), on some (1), as bits (0 without any). -2, -6 likewise, no such what.");
        x = Due.of(TWO, 3);
        due("no numbers", x.row(0, 0, 0), 0);
        due("all on one DAY", x.sure(0, 6, 6, 0), 3);
        due("some on one DAY", x.sure(0, 6, 6, 1), 3);
        due("all on two", x.sure(0, 4, 5, 0), 0);
        due("some on two", x.sure(0, 4, 5, 1), 3);
        due("all on a rest", x.sure(0, 5, 5, 0), 2);
        due("some ahead of a count and on a rest", x.sure(0, 3, 3, 1), 0);
        for (int what : new int[] {-1, 2, Integer.MIN_VALUE, Integer.MAX_VALUE}) {
            due("what " + what, x.sure(0, 0, 9, what), -2);
        }
        due("all on one DAY again", x.sure(0, 6, 6, 0), 3);
        fill(0, 0, 0, 4, 7);
        due("all without any", x.sure(0, 0, 1999, 0), 0);
        due("some without any", x.sure(0, 0, 1999, 1), 0);
        due("nothing", x.sure(1, 0, 9, 0), -6);
        due("SLOT -1", x.sure(-1, 0, 9, 0), -2);
        due("no SPAN", x.sure(0, 9, 8, 1), -2);
        due("no WAR", new TwoCalendars().sure(0, 0, 9, 0), -2);
    }

    private static void ask() {
        Sentences.of(36, "(of weekday, MONTH a DAY ahead of a count is one answer more), if fewer than now, the least number of several. NONE: none; -2, -6 likewise.");
        x = Due.of("war rain 0;land from 1 week 2 rests 0 year 2 2;truce 0 from 1 to 1;", 3);
        due("no numbers", x.row(0, 0, 0), 0);
        // DAYS 0 to 2: MONTH ahead, 0, 0; weekday ahead, 0, 1; MAY no, no, yes
        due("the weekday leaves one", x.ask(0, 0, 2), 3);
        // DAYS 0 and 1: MONTH and weekday ahead, 0; the lesser number
        due("MONTH and weekday leave one", x.ask(0, 0, 1), 1);
        due("one DAY", x.ask(0, 1, 1), -1);
        // DAYS 1 and 2: one MONTH, two weekdays
        due("weekday and whether it MAY leave one", x.ask(0, 1, 2), 3);
        fill(0, 0, 0, 3, 0);
        // DAYS 1, 3 and 5: one weekday, two of one MONTH, two on which it MAY
        due("MONTH and whether it MAY leave two", x.ask(0, 1, 6), 1);
        fill(0, 0, 0, 3, 0, 0, 1, 0);
        due("whether it MAY alone leaves one", x.ask(0, 1, 6), 4);
        due("none leaves fewer", x.ask(0, 5, 12), -1);
        fill(0, 0, 0, 4, 9);
        due("no DAY fits", x.ask(0, 0, 1999), -1);
        due("nothing", x.ask(1, 0, 9), -6);
        due("SLOT 4", x.ask(4, 0, 9), -2);
        due("no SPAN", x.ask(0, 9, 8), -2);
        due("no WAR", new TwoCalendars().ask(0, 0, 9), -2);
        x = Due.of("war rain 0;", 1);
        due("no LANDS", x.row(0, 0, 0), 0);
        due("nobody to ask", x.ask(0, 0, 9), -1);
        // LAND 0 tells nothing, LAND 2 no more than LAND 1
        x = Due.of("war rain 0;land from 0 week 2 rests 0 year 60;land from 5 week 10 rests 0 year 60;land from 5 week 10 rests 0 year 60;", 4);
        fill(0, 0, 0, 3, 0);
        due("the lesser LAND", x.ask(0, 0, 58), 13);
        due("its MONTH, since it is ahead", x.ask(0, 4, 6), 11);
    }

    private static void leaves() {
        Sentences.of(37, "How many it leaves at worst (as now without). -2, -6 likewise.");
        x = Due.of("war rain 0;land from 1 week 2 rests 0 year 2 2;truce 0 from 1 to 1;", 3);
        due("no numbers", x.row(0, 0, 0), 0);
        due("of three DAYS", x.leaves(0, 0, 2), 1);
        due("of one DAY", x.leaves(0, 1, 1), 1);
        due("of all DAYS", x.leaves(0, 0, 1999), 1000);
        fill(0, 0, 0, 3, 0, 0, 1, 0);
        due("as now", x.leaves(0, 5, 12), 2);
        due("whether it MAY", x.leaves(0, 1, 12), 2);
        fill(0, 0, 0, 4, 9);
        due("no DAY fits", x.leaves(0, 0, 1999), 0);
        due("nothing", x.leaves(1, 0, 9), -6);
        due("SLOT 4", x.leaves(4, 0, 9), -2);
        due("no SPAN", x.leaves(0, 9, 8), -2);
        due("no WAR", new TwoCalendars().leaves(0, 0, 9), -2);
    }

    // ---- rows ----

    private static void rows() {
        Sentences.of(60, "A SLOT (0 .. 3) has a row of n numbers of a WIDTH, all 0 (in place of another one): 0.");
        x = Due.of(SHOWN, 2);
        due("SLOT 0", x.row(0, 0, 3), 0);
        due("SLOT 3", x.row(3, 3, 3), 0);
        due("two rows", x.count(7), 2);
        due("none of no numbers", x.row(1, 0, 0), 0);
        due("it is a row", x.count(7), 3);
        due("without a number", x.write(1, 0, 0), -7);
        fill(0, 1, 7, 8, 9, 10);
        due("in place of another", x.row(0, 1, 3), 0);
        shows("all 0", 0, 1, 0, 0, 0);
        due("longer again", x.row(0, 1, 5), 0);
        shows("all 0 again", 0, 1, 0, 0, 0, 0, 0);
        due("of another WIDTH", x.row(0, 0, 2), 0);
        shows("of one byte", 0, 0, 0, 0);
        due("still three rows", x.count(7), 3);
        due("SLOT 2, the fourth", x.row(2, 2, 60), 0);
        due("four rows", x.count(7), 4);
    }

    private static void rowsRefused() {
        Sentences.of(60, "-2: there is no such SLOT or WIDTH (0 .. 3), or n is above 60");
        x = Due.of(SHOWN, 2);
        for (int slot : NO_SLOTS) {
            due("SLOT " + slot, x.row(slot, 0, 1), -2);
        }
        fill(0, 1, 7, 300);
        for (int width : new int[] {-1, 4, Integer.MIN_VALUE, Integer.MAX_VALUE}) {
            due("WIDTH " + width, x.row(0, width, 1), -2);
        }
        for (int n : new int[] {61, 62, Integer.MAX_VALUE}) {
            due("n " + n, x.row(0, 0, n), -2);
        }
        due("one row", x.count(7), 1);
        shows("it has what it had", 0, 1, 7, 300);
        for (int width = 0; width < 4; width++) {
            due("60 of WIDTH " + width, x.row(0, width, 60), 0);
            due("number 59", x.write(0, 59, 1), 0);
            due("number 60", x.write(0, 60, 1), -7);
        }
    }

    private static void rowsBelow() {
        Sentences.of(60, "-3, and the SLOT stays: n is below 0");
        x = Due.of(SHOWN, 2);
        due("nothing stays nothing", x.row(1, 0, -1), -3);
        due("no rows", x.count(7), 0);
        due("nothing to write to", x.write(1, 0, 0), -6);
        fill(0, 1, 7, 300);
        for (int n : new int[] {-1, -60, -61, Integer.MIN_VALUE}) {
            due("n " + n, x.row(0, 0, n), -3);
        }
        shows("it has what it had", 0, 1, 7, 300);
        due("n 0 is not below", x.row(0, 0, 0), 0);
        due("no number then", x.write(0, 0, 0), -7);
    }

    private static void writes() {
        Sentences.of(61, "Number i of the SLOT's row is v, cut to its WIDTH: 0.");
        x = Due.of(SHOWN, 2);
        fill(0, 0, 127, 128, 255, 256, 257, -256, -255);
        shows("one byte", 0, 0, 127, -1, -1, 0, 1, 0, 1);
        fill(0, 1, 1999, 65535, 65536, 65537, -65536, -65535);
        shows("two bytes", 0, 1, 1999, -1, 0, 1, 0, 1);
        fill(0, 2, 4294967295L, 4294967296L, 4294967297L, -4294967295L);
        shows("four bytes", 0, 2, -1, 0, 1, 1);
        fill(0, 3, 4294967296L, 4294967297L, -1, 1999);
        shows("eight bytes", 0, 3, -1, -1, -1, 1999);
    }

    private static void writesRefused() {
        Sentences.of(61, "-2: there is no such SLOT; -6: it has nothing; -7: there is no such number");
        x = Due.of(SHOWN, 2);
        for (int slot : NO_SLOTS) {
            due("SLOT " + slot, x.write(slot, 0, 1), -2);
        }
        for (int slot = 0; slot < 4; slot++) {
            due("nothing in SLOT " + slot, x.write(slot, 0, 1), -6);
            due("nothing in SLOT " + slot + ", number -1", x.write(slot, -1, 1), -6);
        }
        due("no rows by that", x.count(7), 0);
        fill(0, 1, 7, 8, 9);
        for (int i : new int[] {-1, 3, 59, 60, Integer.MIN_VALUE, Integer.MAX_VALUE}) {
            due("number " + i, x.write(0, i, 1), -7);
        }
        shows("they stay", 0, 1, 7, 8, 9);
        due("number 0", x.write(0, 0, 5), 0);
        due("number 2", x.write(0, 2, 6), 0);
        shows("the first and the last", 0, 1, 5, 8, 6);
    }

    private static void pastes() {
        Sentences.of(62, "So many numbers of a SLOT's row, from one on, are put to another one's (or its own), from one on, as they were: 0.");
        x = Due.of(SHOWN, 2);
        fill(0, 1, 1, 2, 3, 4, 5);
        fill(1, 1, 11, 12, 13);
        due("all that fit", x.paste(0, 0, 1, 0, 3), 0);
        shows("put", 1, 1, 1, 2, 3);
        due("the last to the first", x.paste(0, 4, 1, 0, 1), 0);
        shows("one", 1, 1, 5, 2, 3);
        due("the first to the last", x.paste(0, 0, 1, 2, 1), 0);
        shows("one more", 1, 1, 5, 2, 1);
        due("none at all", x.paste(0, 0, 1, 0, 0), 0);
        due("none at the ends", x.paste(0, 5, 1, 3, 0), 0);
        shows("as before", 1, 1, 5, 2, 1);
        shows("the row they came from", 0, 1, 1, 2, 3, 4, 5);
        due("up in its own", x.paste(0, 0, 0, 1, 4), 0);
        shows("as they were", 0, 1, 1, 1, 2, 3, 4);
        due("down in its own", x.paste(0, 1, 0, 0, 4), 0);
        shows("as they were again", 0, 1, 1, 2, 3, 4, 4);
    }

    private static void pastesRefused() {
        Sentences.of(62, "-2: there is no such SLOT; -6: one has nothing; -8: they are not of one WIDTH");
        x = Due.of(SHOWN, 2);
        due("both have nothing", x.paste(0, 0, 1, 0, 0), -6);
        fill(0, 1, 1, 2, 3);
        for (int slot : NO_SLOTS) {
            due("from SLOT " + slot, x.paste(slot, 0, 0, 0, 1), -2);
            due("to SLOT " + slot, x.paste(0, 0, slot, 0, 1), -2);
            due("from nothing to SLOT " + slot, x.paste(1, 0, slot, 0, 1), -2);
        }
        due("from nothing", x.paste(1, 0, 0, 0, 1), -6);
        due("to nothing", x.paste(0, 0, 1, 0, 1), -6);
        due("no numbers to nothing", x.paste(0, 0, 1, 0, 0), -6);
        for (int width = 0; width < 4; width++) {
            fill(1, width, 11, 12, 13);
            due("to WIDTH " + width, x.paste(0, 0, 1, 0, 1), width == 1 ? 0 : -8);
            shows("WIDTH " + width, 1, width, width == 1 ? 1 : 11, 12, 13);
            due("from WIDTH " + width, x.paste(1, 1, 0, 0, 0), width == 1 ? 0 : -8);
        }
        shows("the first row stays", 0, 1, 1, 2, 3);
    }

    private static void pastesBeyond() {
        Sentences.of(62, "-7, and nothing happens: some are beyond their rows, or a place or n is below 0");
        x = Due.of(SHOWN, 2);
        fill(0, 1, 1, 2, 3, 4);
        fill(1, 1, 11, 12, 13);
        int[][] wrong = {{0, 0, 4}, {1, 0, 4}, {2, 0, 3}, {4, 0, 1}, {5, 0, 1}, {0, 1, 3}, {0, 3, 1}, {0, 4, 1}, {-1, 0, 1}, {0, -1, 1}, {0, 0, -1},
            {-1, 0, 0}, {0, -1, 0}, {1, 1, -1}, {Integer.MAX_VALUE, 0, 1}, {0, Integer.MAX_VALUE, 1}, {0, 0, Integer.MAX_VALUE},
            {1, 1, Integer.MAX_VALUE}, {Integer.MAX_VALUE, Integer.MAX_VALUE, Integer.MAX_VALUE}, {Integer.MIN_VALUE, 0, 1},
            {0, Integer.MIN_VALUE, 1}, {0, 0, Integer.MIN_VALUE}};
        for (int[] p : wrong) {
            due(p[2] + " from " + p[0] + " to " + p[1], x.paste(0, p[0], 1, p[1], p[2]), -7);
        }
        shows("they stay", 1, 1, 11, 12, 13);
        due("beyond in its own", x.paste(0, 0, 0, 1, 4), -7);
        due("from beyond in its own", x.paste(0, 1, 0, 0, 4), -7);
        shows("these, too", 0, 1, 1, 2, 3, 4);
        due("all but one", x.paste(0, 1, 1, 0, 3), 0);
        shows("put", 1, 1, 2, 3, 4);
        due("all of its own", x.paste(0, 0, 0, 0, 4), 0);
    }
}
