/** The bounds of TRUCES that overlap, of ages, marches and games: Terms IV and V, and the promises 38 to 50. */
final class MarchBounds {
    private static final int[] FAR = {Integer.MIN_VALUE, Integer.MAX_VALUE};
    private static final int[] NO_DAYS = {-1, 2000, Integer.MIN_VALUE, Integer.MAX_VALUE};
    private static final int[][] NO_SPANS = {{5, 4}, {-1, 4}, {-2, -1}, {0, 2000}, {2000, 2000}, {1999, 1998}, {0, -1},
        {Integer.MIN_VALUE, 0}, {0, Integer.MAX_VALUE}, {Integer.MAX_VALUE, Integer.MIN_VALUE}};
    // two LANDS that are none such, or one twice, of two
    private static final int[][] NO_PAIRS = {{0, 0}, {1, 1}, {-1, 0}, {0, -1}, {2, 0}, {0, 2}, {2, 2}, {-1, -1},
        {Integer.MIN_VALUE, 0}, {0, Integer.MAX_VALUE}};
    private static final String EVER = "land from 0 week 2 rests 0 year 1;";
    private static final String BOTH = "war rain 100;" + EVER + EVER;
    // land 1 may not on 100 to 104 and 1995 to 1999
    private static final String HOLES = BOTH + "truce 1 from 100 to 104;truce 1 from 1995 to 1999;";

    private static TwoCalendars x = new TwoCalendars();

    private MarchBounds() {
    }

    static void run() {
        marchOfTerm();
        aloneOfTerm();
        gameOfTerm();
        holds();
        overlaps();
        overlapsRefused();
        most();
        ages();
        agesRefused();
        gains();
        gainsRefused();
        marches();
        marchesRefused();
        clashes();
        clashesRefused();
        places();
        alone();
        begins();
        beginsToTheLast();
        beginsRefused();
        howManyBegin();
        games();
        gamesOfNobody();
        gamesRefused();
        takes();
    }

    private static void due(String call, long got, long want) {
        Due.is(call, got, want);
    }

    // ---- Terms IV and V ----

    private static void marchOfTerm() {
        Sentences.ofTerm("IV", "MARCH: from a DAY on, that too, a LAND does one step on each DAY on which it MAY.");
        x = Due.of(HOLES, 5);
        due("on that DAY", x.march(1, 99, 1), 99);
        due("none in the TRUCE", x.march(1, 99, 2), 105);
        due("from a DAY of the TRUCE on", x.march(1, 100, 1), 105);
        due("from its last DAY on", x.march(1, 104, 1), 105);
        due("behind it", x.march(1, 105, 1), 105);
    }

    private static void aloneOfTerm() {
        Sentences.ofTerm("IV", "ALONE: DAYS on which one LAND MAY and another one may not.");
        x = Due.of(HOLES + "truce 0 from 104 to 105;", 6);
        due("both MAY", x.alone(0, 1, 99, 99), 0);
        due("one MAY", x.alone(0, 1, 100, 100), 1);
        due("neither", x.alone(0, 1, 104, 104), 0);
        due("the other one", x.alone(0, 1, 105, 105), 0);
        due("turned round", x.alone(1, 0, 105, 105), 1);
        due("turned round, neither", x.alone(1, 0, 104, 104), 0);
    }

    private static void play(int land, int other, int day, int n, int winner, int first) {
        String call = "(" + land + ", " + other + ", " + day + ", " + n + ")";
        due("game" + call, x.game(land, other, day, n), winner);
        due("takes" + call, x.takes(land, other, day, n), first);
    }

    private static void gameOfTerm() {
        Sentences.ofTerm("V", "on each DAY from one on a LAND that MAY takes one or two stones, the lesser LAND first on a DAY on which both MAY; "
            + "on others nobody. Who takes the last has won; if the DAYS end ahead, nobody has.");
        x = Due.of(BOTH, 3);
        play(0, 1, 0, 1, 0, 1);
        play(0, 1, 0, 2, 0, 2);
        play(0, 1, 0, 3, 1, 1);
        play(0, 1, 0, 4, 0, 1);
        play(1, 0, 0, 2, 0, 2);
        play(1, 0, 0, 3, 1, 1);
        // on the last DAY one turn each
        play(0, 1, 1999, 2, 0, 2);
        play(0, 1, 1999, 3, 1, 1);
        play(0, 1, 1999, 4, -1, 1);
        play(0, 1, 1999, 5, -1, 1);
        x = Due.of(BOTH + "truce 0 from 0 to 0;truce 0 from 2 to 2;truce 1 from 2 to 2;", 6);
        // land 1 alone, both, nobody, both
        play(0, 1, 0, 1, 1, 1);
        play(0, 1, 2, 1, 0, 1);
        play(0, 1, 0, 3, 0, 1);
    }

    // ---- the promises ----

    private static void holds() {
        Sentences.of(38, "TRUCES that hold on a DAY. -2: there is none such, no WAR.");
        x = Due.of(BOTH + "truce 0 from 5 to 9;truce 1 from 9 to 9;truce 0 from 0 to 0;truce 1 from 1999 to 1999;", 7);
        int[] days = {0, 1, 4, 5, 8, 9, 10, 1998, 1999};
        int[] held = {1, 0, 0, 1, 1, 2, 0, 0, 1};
        for (int i = 0; i < days.length; i++) {
            due("on " + days[i], x.holds(days[i]), held[i]);
        }
        for (int day : NO_DAYS) {
            due("on " + day, x.holds(day), -2);
        }
        due("no WAR", new TwoCalendars().holds(0), -2);
        due("none", Due.of("war rain 0;", 1).holds(0), 0);
        due("ahead of a count, too", Due.of("war rain 0;land from 999 week 2 rests 0 year 1;truce 0 from 0 to 5;", 3).holds(5), 1);
    }

    private static void overlaps() {
        Sentences.of(39, "The first DAY from one on on which n (1 and above) TRUCES hold at least. NONE: none");
        x = Due.of(BOTH + "truce 0 from 5 to 9;truce 1 from 9 to 12;truce 1 from 1999 to 1999;", 6);
        due("n 0", x.overlap(0, 0), -2);
        due("n 1", x.overlap(1, 0), 5);
        due("n 1, on that DAY", x.overlap(1, 5), 5);
        due("n 1, later", x.overlap(1, 12), 12);
        due("n 1, behind it", x.overlap(1, 13), 1999);
        due("n 1, on the last DAY", x.overlap(1, 1999), 1999);
        due("n 2", x.overlap(2, 0), 9);
        due("n 2, on that DAY", x.overlap(2, 9), 9);
        due("n 2, behind it", x.overlap(2, 10), -1);
        due("n 3", x.overlap(3, 0), -1);
        due("n 4", x.overlap(4, 0), -1);
        due("far n", x.overlap(Integer.MAX_VALUE, 0), -1);
        x = Due.of(BOTH + "truce 0 from 5 to 9;truce 1 from 9 to 12;", 5);
        due("n 2 of two", x.overlap(2, 0), 9);
        due("n 3 of two", x.overlap(3, 0), -1);
    }

    private static void overlapsRefused() {
        Sentences.of(39, "-2 likewise");
        x = Due.of(BOTH + "truce 0 from 0 to 1999;", 4);
        for (int day : NO_DAYS) {
            due("on " + day, x.overlap(1, day), -2);
        }
        due("n -1", x.overlap(-1, 0), -2);
        due("least n", x.overlap(Integer.MIN_VALUE, 0), -2);
        due("no WAR", new TwoCalendars().overlap(1, 0), -2);
        due("no TRUCES", Due.of("war rain 0;", 1).overlap(1, 0), -1);
    }

    private static void most() {
        Sentences.of(40, "The most that hold on a DAY. -2: there is no WAR.");
        due("no WAR", new TwoCalendars().most(), -2);
        due("no TRUCES", Due.of("war rain 0;", 1).most(), 0);
        x = Due.of(BOTH + "truce 0 from 5 to 9;truce 1 from 10 to 12;", 5);
        due("one behind the other", x.most(), 1);
        due("one is begun in another one told behind it", Due.of(BOTH + "truce 0 from 5 to 9;truce 1 from 0 to 6;", 5).most(), 2);
        due("granted over the ends of both", x.grant(0, 9, 10), 2);
        due("two", x.most(), 2);
        for (int i = 3; i < 12; i++) {
            due("grant", x.grant(0, 1999, 1999), i);
        }
        due("nine on the last DAY", x.most(), 9);
        due("no WAR then", x.war(), 0);
        due("none", x.most(), -2);
        x = Due.of("war rain 0;" + EVER + "truce 0 from 7 to 7;".repeat(12), 14);
        due("twelve", x.most(), 12);
    }

    private static void ages() {
        Sentences.of(41, "YEARS less YEARS, and one less, if MONTH and day are ahead of those of birth. NONE: born later, ahead of its count");
        // years of 31 and 30 days by turns from 3 on: 3, 34, 64, 95
        x = Due.of("war rain 0;land from 3 week 2 rests 0 year 10 20 leap 2 in 1 adds 1;", 2);
        due("on its DAY of birth", x.age(0, 10, 10), 0);
        due("born later", x.age(0, 10, 9), -1);
        due("the DAY ahead of a YEAR", x.age(0, 3, 33), 0);
        due("a YEAR", x.age(0, 3, 34), 1);
        due("born on a leap day, next YEAR", x.age(0, 33, 63), 0);
        due("born on a leap day, the YEAR behind it", x.age(0, 33, 64), 1);
        due("born on a leap day, the DAY ahead", x.age(0, 33, 93), 1);
        due("born on a leap day, on it", x.age(0, 33, 94), 2);
        due("the MONTH goes ahead of the day", x.age(0, 12, 44), 1);
        due("born on the last day of a MONTH", x.age(0, 12, 43), 1);
        due("the DAY ahead of it", x.age(0, 12, 42), 0);
        due("born ahead of its count", x.age(0, 2, 10), -1);
        due("both ahead of it", x.age(0, 0, 2), -1);
        due("born on its first DAY", x.age(0, 3, 3), 0);
        due("born later and ahead of it", x.age(0, 2, 1), -1);
        due("from the first DAY to the last", Due.of("war rain 0;" + EVER, 2).age(0, 0, 1999), 1999);
    }

    private static void agesRefused() {
        Sentences.of(41, "-2: there are none such");
        x = Due.of("war rain 0;" + EVER, 2);
        for (int day : NO_DAYS) {
            due("born on " + day, x.age(0, day, 1999), -2);
            due("on " + day, x.age(0, 0, day), -2);
        }
        due("LAND 1", x.age(1, 0, 1), -2);
        due("LAND -1", x.age(-1, 0, 1), -2);
        for (int far : FAR) {
            due("far LAND", x.age(far, 0, 1), -2);
        }
        due("no WAR", new TwoCalendars().age(0, 0, 1), -2);
    }

    private static void gains() {
        Sentences.of(42, "(below 0: younger). -1,000: NONE by one of both");
        x = Due.of("war rain 0;land from 3 week 2 rests 0 year 10 20 leap 2 in 1 adds 1;" + EVER, 3);
        due("younger", x.gains(0, 1, 3, 34), -30);
        due("older", x.gains(1, 0, 3, 34), 30);
        due("alike", x.gains(0, 1, 9, 9), 0);
        due("younger by far", x.gains(0, 1, 3, 1999), 65 - 1996);
        due("ahead of one's count", x.gains(0, 1, 2, 9), -1000);
        due("ahead of the other's", x.gains(1, 0, 2, 9), -1000);
        due("in both counts", x.gains(1, 0, 3, 9), 6);
        due("born later", x.gains(0, 1, 9, 8), -1000);
    }

    private static void gainsRefused() {
        Sentences.of(42, "-2,000: there are none such, one twice");
        x = Due.of(BOTH, 3);
        for (int[] no : NO_PAIRS) {
            due("LANDS " + no[0] + " and " + no[1], x.gains(no[0], no[1], 0, 1), -2000);
        }
        for (int day : NO_DAYS) {
            due("born on " + day, x.gains(0, 1, day, 1999), -2000);
            due("on " + day, x.gains(0, 1, 0, day), -2000);
        }
        due("such", x.gains(0, 1, 0, 1), 0);
        due("no WAR", new TwoCalendars().gains(0, 1, 0, 1), -2000);
    }

    private static void marches() {
        Sentences.of(43, "the DAY of the n-th (1 and above) step. NONE: none");
        x = Due.of(HOLES, 5);
        due("n 0", x.march(0, 0, 0), -2);
        due("n 1", x.march(0, 0, 1), 0);
        due("n 2000", x.march(0, 0, 2000), 1999);
        due("n 2001", x.march(0, 0, 2001), -1);
        due("far n", x.march(0, 0, Integer.MAX_VALUE), -1);
        due("on the last DAY", x.march(0, 1999, 1), 1999);
        due("no second one", x.march(0, 1999, 2), -1);
        due("the last one ahead of the TRUCE", x.march(1, 0, 1990), 1994);
        due("none behind it", x.march(1, 0, 1991), -1);
        due("none in it", x.march(1, 1995, 1), -1);
    }

    private static void marchesRefused() {
        Sentences.of(43, "-2: there are none such");
        x = Due.of(BOTH, 3);
        for (int day : NO_DAYS) {
            due("on " + day, x.march(0, day, 1), -2);
        }
        due("n -1", x.march(0, 0, -1), -2);
        due("least n", x.march(0, 0, Integer.MIN_VALUE), -2);
        due("LAND 2", x.march(2, 0, 1), -2);
        due("LAND -1", x.march(-1, 0, 1), -2);
        for (int far : FAR) {
            due("far LAND", x.march(far, 0, 1), -2);
        }
        due("no WAR", new TwoCalendars().march(0, 0, 1), -2);
    }

    private static void clashes() {
        Sentences.of(44, "have done n steps (1 and above), begun on that one. NONE: none");
        x = Due.of(HOLES, 5);
        due("n 0", x.clash(0, 1, 0, 0), -2);
        due("n 1", x.clash(0, 1, 0, 1), 0);
        due("n 2", x.clash(0, 1, 0, 2), 0);
        due("n 3", x.clash(0, 1, 0, 3), 1);
        due("one alone", x.clash(0, 1, 100, 5), 104);
        due("both again", x.clash(0, 1, 100, 6), 105);
        due("all steps", x.clash(0, 1, 0, 3990), 1999);
        due("one more", x.clash(0, 1, 0, 3991), -1);
        due("far n", x.clash(0, 1, 0, Integer.MAX_VALUE), -1);
        due("the last DAY", x.clash(0, 1, 1999, 1), 1999);
        due("no second step on it", x.clash(1, 0, 1999, 2), -1);
    }

    private static void clashesRefused() {
        Sentences.of(44, "-2: there are none such, one twice");
        x = Due.of(BOTH, 3);
        for (int[] no : NO_PAIRS) {
            due("LANDS " + no[0] + " and " + no[1], x.clash(no[0], no[1], 0, 1), -2);
        }
        for (int day : NO_DAYS) {
            due("on " + day, x.clash(0, 1, day, 1), -2);
        }
        due("n -1", x.clash(0, 1, 0, -1), -2);
        due("least n", x.clash(0, 1, 0, Integer.MIN_VALUE), -2);
        due("no WAR", new TwoCalendars().clash(0, 1, 0, 1), -2);
    }

    private static void places() {
        Sentences.of(45, "(its step of the last DAY too, if it came to that; the lesser LAND steps first). NONE, -2 likewise.");
        x = Due.of(HOLES, 5);
        int[] lesser = {1, 1, 2, 2};
        int[] greater = {0, 1, 1, 2};
        for (int n = 1; n <= 4; n++) {
            due("LAND 0 of " + n, x.place(0, 1, 0, n), lesser[n - 1]);
            due("LAND 1 of " + n, x.place(1, 0, 0, n), greater[n - 1]);
        }
        due("LAND 0 alone", x.place(0, 1, 100, 5), 5);
        due("LAND 1 not", x.place(1, 0, 100, 5), 0);
        due("LAND 0 of all", x.place(0, 1, 0, 3990), 2000);
        due("LAND 1 of all", x.place(1, 0, 0, 3990), 1990);
        due("one more", x.place(0, 1, 0, 3991), -1);
        due("far n", x.place(1, 0, 0, Integer.MAX_VALUE), -1);
        due("n 0", x.place(0, 1, 0, 0), -2);
        due("n -1", x.place(0, 1, 0, -1), -2);
        for (int[] no : NO_PAIRS) {
            due("LANDS " + no[0] + " and " + no[1], x.place(no[0], no[1], 0, 1), -2);
        }
        due("the lesser LAND may not on a DAY", x.grant(0, 7, 7), 2);
        due("the greater one alone", x.place(1, 0, 7, 1), 1);
        due("the lesser one not", x.place(0, 1, 7, 1), 0);
        due("both on the next DAY, one too many", x.place(1, 0, 7, 2), 1);
        due("the lesser one's step is the last", x.place(0, 1, 7, 2), 1);
        due("both on the next DAY", x.place(1, 0, 7, 3), 2);
        for (int day : NO_DAYS) {
            due("on " + day, x.place(0, 1, day, 1), -2);
        }
        due("no WAR", new TwoCalendars().place(0, 1, 0, 1), -2);
    }

    private static void alone() {
        Sentences.of(46, "-2: there are none such, one twice");
        x = Due.of(HOLES, 5);
        due("all DAYS", x.alone(0, 1, 0, 1999), 10);
        due("both ends", x.alone(0, 1, 100, 104), 5);
        due("ahead of them", x.alone(0, 1, 95, 99), 0);
        due("the other one", x.alone(1, 0, 0, 1999), 0);
        for (int[] no : NO_PAIRS) {
            due("LANDS " + no[0] + " and " + no[1], x.alone(no[0], no[1], 0, 1), -2);
        }
        for (int[] no : NO_SPANS) {
            due("from " + no[0] + " to " + no[1], x.alone(0, 1, no[0], no[1]), -2);
        }
        due("no WAR", new TwoCalendars().alone(0, 1, 0, 1), -2);
    }

    private static void begin(int from, int to, int n, int day, int many) {
        String call = "(0, 1, " + from + ", " + to + ", " + n + ")";
        due("begin" + call, x.begin(0, 1, from, to, n), day);
        due("begins" + call, x.begins(0, 1, from, to, n), many);
    }

    private static void begins() {
        Sentences.of(47, "the DAY of a SPAN from which on in n (1 .. 200) DAYS");
        x = Due.of(HOLES, 5);
        begin(0, 1999, 0, -2, -2);
        begin(0, 1999, 1, 100, 1);
        begin(0, 1999, 5, 100, 5);
        begin(0, 1999, 4, 100, 4);
        begin(0, 1999, 6, 99, 5);
        begin(0, 1999, 200, 0, 5);
        begin(0, 1999, 201, -2, -2);
        // 199 DAYS reach from 1801 to the last one
        begin(1700, 1999, 200, 1800, 5);
        begin(1700, 1999, 199, 1801, 5);
        begin(100, 100, 5, 100, 5);
        begin(101, 101, 5, 101, 4);
        begin(99, 101, 3, 100, 3);
        begin(99, 100, 5, 100, 5);
        begin(98, 99, 5, 99, 4);
        begin(50, 60, 3, 50, 0);
        for (int n : new int[] {-1, Integer.MIN_VALUE, Integer.MAX_VALUE}) {
            begin(0, 1999, n, -2, -2);
        }
    }

    private static void beginsToTheLast() {
        Sentences.of(47, "(to the last one alone) most are ALONE, the first of several");
        x = Due.of(HOLES, 5);
        begin(1995, 1999, 5, 1995, 5);
        begin(1996, 1999, 5, 1996, 4);
        begin(1999, 1999, 200, 1999, 1);
        begin(1990, 1999, 200, 1990, 5);
        begin(0, 1999, 3, 100, 3);
        begin(101, 1999, 5, 1995, 5);
        begin(101, 1999, 4, 101, 4);
    }

    private static void beginsRefused() {
        Sentences.of(47, "-2: there are none such, one twice");
        x = Due.of(HOLES, 5);
        for (int[] no : NO_PAIRS) {
            due("LANDS " + no[0] + " and " + no[1], x.begin(no[0], no[1], 0, 1, 1), -2);
        }
        for (int[] no : NO_SPANS) {
            due("from " + no[0] + " to " + no[1], x.begin(0, 1, no[0], no[1], 1), -2);
        }
        due("no WAR", new TwoCalendars().begin(0, 1, 0, 1, 1), -2);
    }

    private static void howManyBegin() {
        Sentences.of(48, "How many. -2 likewise.");
        x = Due.of(HOLES, 5);
        due("none ALONE", x.begins(1, 0, 0, 1999, 200), 0);
        due("n 200", x.begins(0, 1, 0, 1999, 200), 5);
        due("n 201", x.begins(0, 1, 0, 1999, 201), -2);
        due("n 0", x.begins(0, 1, 0, 1999, 0), -2);
        for (int[] no : NO_PAIRS) {
            due("LANDS " + no[0] + " and " + no[1], x.begins(no[0], no[1], 0, 1, 1), -2);
        }
        for (int[] no : NO_SPANS) {
            due("from " + no[0] + " to " + no[1], x.begins(0, 1, no[0], no[1], 1), -2);
        }
        due("no WAR", new TwoCalendars().begins(0, 1, 0, 1, 1), -2);
    }

    private static void games() {
        Sentences.of(49, "GAME (V) of two LANDS from a DAY on with n (1 .. 40) stones");
        x = Due.of(BOTH, 3);
        play(0, 1, 0, 0, -2, -2);
        play(0, 1, 0, 1, 0, 1);
        play(0, 1, 0, 39, 1, 1);
        play(0, 1, 0, 40, 0, 1);
        play(0, 1, 0, 41, -2, -2);
        for (int n : new int[] {-1, Integer.MIN_VALUE, Integer.MAX_VALUE}) {
            play(0, 1, 0, n, -2, -2);
        }
        // forty turns of one and two stones are twenty DAYS of both
        play(0, 1, 1980, 40, 0, 1);
        play(0, 1, 1980, 39, 1, 1);
        // land 0 alone on the first DAY: its second turn is the first with the other one
        x = Due.of(BOTH + "truce 1 from 0 to 0;", 4);
        play(0, 1, 0, 40, 0, 2);
        play(0, 1, 0, 39, 0, 1);
        play(0, 1, 0, 3, 0, 1);
    }

    private static void gamesOfNobody() {
        Sentences.of(49, "NONE: nobody");
        // from 1900 on land 1 alone
        x = Due.of(BOTH + "truce 0 from 1900 to 1999;", 4);
        play(0, 1, 1980, 40, 1, 2);
        play(0, 1, 1981, 40, -1, 1);
        play(0, 1, 1981, 39, -1, 1);
        play(0, 1, 1981, 38, 1, 2);
        play(0, 1, 1981, 37, 1, 1);
        play(1, 0, 1999, 1, 1, 1);
        play(1, 0, 1999, 2, 1, 2);
        play(1, 0, 1999, 3, -1, 1);
        // a LAND that can't win takes so that nobody does: two DAYS of land 0 alone, then one of land 1
        x = Due.of(BOTH + "truce 1 from 1995 to 1998;truce 0 from 1999 to 1999;truce 0 from 1995 to 1996;truce 1 from 0 to 1994;", 7);
        play(0, 1, 1998, 3, 1, 1);
        play(0, 1, 1998, 4, -1, 1);
        play(0, 1, 1997, 5, -1, 1);
        play(0, 1, 1997, 6, -1, 1);
    }

    private static void gamesRefused() {
        Sentences.of(49, "-2: there are none such, one twice");
        x = Due.of(BOTH, 3);
        for (int[] no : NO_PAIRS) {
            play(no[0], no[1], 0, 1, -2, -2);
        }
        for (int day : NO_DAYS) {
            play(0, 1, day, 1, -2, -2);
        }
        due("no WAR", new TwoCalendars().game(0, 1, 0, 1), -2);
    }

    private static void takes() {
        Sentences.of(50, "(the fewest of like ones), 0: the DAYS end ahead. -2 likewise.");
        x = Due.of(BOTH + "truce 0 from 1999 to 1999;truce 1 from 1999 to 1999;", 5);
        due("nobody is to take", x.takes(0, 1, 1999, 1), 0);
        due("nor of many", x.takes(0, 1, 1999, 40), 0);
        due("nobody wins then", x.game(0, 1, 1999, 1), -1);
        due("on the DAY ahead", x.takes(0, 1, 1998, 1), 1);
        due("two of two", x.takes(0, 1, 1998, 2), 2);
        due("the fewest, if both lose", x.takes(0, 1, 1998, 3), 1);
        due("the fewest, if nobody wins by both", x.takes(0, 1, 1998, 5), 1);
        due("n 0", x.takes(0, 1, 1998, 0), -2);
        due("n 41", x.takes(0, 1, 1998, 41), -2);
        due("one twice", x.takes(0, 0, 1998, 1), -2);
        due("LAND 2", x.takes(0, 2, 1998, 1), -2);
        due("DAY 2000", x.takes(0, 1, 2000, 1), -2);
        due("no WAR", new TwoCalendars().takes(0, 1, 0, 1), -2);
        // land 0 on two DAYS alone: with three stones it wins by one and by two
        x = Due.of(BOTH + "truce 1 from 1998 to 1999;", 4);
        due("the fewest, if both win", x.takes(0, 1, 1998, 3), 1);
        due("two, if that alone wins", x.takes(0, 1, 1998, 4), 2);
    }
}
