/** The bounds of changes, of rain, of counts and images: Term VI, and the promises 51 to 59. */
final class ChangeBounds {
    private static final int[] FAR = {Integer.MIN_VALUE, Integer.MAX_VALUE};
    private static final int[] NO_DAYS = {-1, 2000, Integer.MIN_VALUE, Integer.MAX_VALUE};
    private static final String EVER = "land from 0 week 2 rests 0 year 1;";
    private static final String LONG = "land from 0 week 7 rests 0 year 10 20 leap 2 in 1 adds 9;";
    private static final String TWO = "war rain 30;" + LONG + EVER;

    private static TwoCalendars x = new TwoCalendars();

    private ChangeBounds() {
    }

    static void run() {
        found();
        foundRefused();
        twelveFeasts();
        sixtyChanges();
        grants();
        grantsRefused();
        twelveTruces();
        ends();
        endsRefused();
        endsOfNone();
        endsLast();
        undo();
        undoRefused();
        draws();
        wetDays();
        drawnSeeds();
        drawnDays();
        drawnRefused();
        lucks();
        lucksRefused();
        counts();
        images();
        imagesRefused();
        backs();
        backsToOtherWars();
        backsRefused();
    }

    private static void due(String call, long got, long want) {
        Due.is(call, got, want);
    }

    // ---- found ----

    private static void found() {
        Sentences.of(51, "A FEAST comes (for n days): its number.");
        x = Due.of(TWO, 3);
        due("it MAY ahead of that", x.why(0, 29), 0);
        due("the first", x.found(0, 1, 19, 9), 0);
        int[] parts = {0, 1, 19, 9};
        for (int what = 0; what < 4; what++) {
            due("feast(0, " + what + ")", x.feast(0, what), parts[what]);
        }
        due("ahead of it", x.why(0, 28), 0);
        due("its first day", x.why(0, 29), 3);
        due("its last day", x.why(0, 37), 3);
        due("behind it", x.why(0, 38), 0);
        due("the next", x.found(1, 0, 0, 1), 1);
        due("two", x.count(1), 2);
        due("two changes", x.count(6), 2);
        due("LINES are as before", x.count(4), 3);
    }

    private static void foundRefused() {
        Sentences.of(51, "-2: there are none such");
        x = Due.of(TWO, 3);
        String before = Stays.of(x);
        int[][] wrong = {{-1, 0, 0, 1}, {2, 0, 0, 1}, {0, -1, 0, 1}, {0, 2, 0, 1}, {1, 1, 0, 1}, {0, 0, -1, 1}, {0, 0, 10, 1}, {0, 1, 20, 1},
            {0, 1, 28, 1}, {1, 0, 1, 1}, {0, 0, 0, 0}, {0, 0, 0, 10}, {0, 0, 0, -1}};
        for (int[] no : wrong) {
            due("found(" + no[0] + ", " + no[1] + ", " + no[2] + ", " + no[3] + ")", x.found(no[0], no[1], no[2], no[3]), -2);
        }
        for (int far : FAR) {
            due("far LAND", x.found(far, 0, 0, 1), -2);
            due("far MONTH", x.found(0, far, 0, 1), -2);
            due("far day", x.found(0, 0, far, 1), -2);
            due("far n", x.found(0, 0, 0, far), -2);
        }
        Stays.asBefore("the WAR", x, before);
        int[][] right = {{0, 0, 0, 1}, {0, 0, 9, 9}, {0, 1, 19, 1}, {1, 0, 0, 9}};
        for (int i = 0; i < right.length; i++) {
            due("such one", x.found(right[i][0], right[i][1], right[i][2], right[i][3]), i);
        }
        due("no WAR", new TwoCalendars().found(0, 0, 0, 1), -2);
    }

    private static void twelveFeasts() {
        Sentences.of(51, "-3 (behind that): there are twelve");
        x = Due.of("war rain 0;" + LONG + "feast 0 0 0 for 1;", 3);
        for (int i = 1; i < 12; i++) {
            due("FEAST " + i, x.found(0, 0, 5, 1), i);
        }
        String before = Stays.of(x);
        due("a thirteenth", x.found(0, 0, 5, 1), -3);
        due("behind that: no such LAND", x.found(1, 0, 5, 1), -2);
        due("behind that: no such day", x.found(0, 0, 10, 1), -2);
        due("behind that: no such n", x.found(0, 0, 5, 10), -2);
        Stays.asBefore("the WAR", x, before);
        due("TRUCES may come still", x.grant(0, 0, 0), 0);
        due("taken back", x.undo(), 11);
        due("one is taken back", x.undo(), 10);
        due("a twelfth again", x.found(0, 0, 6, 1), 11);
        due("one ends", x.ends(0), 11);
        due("a twelfth once more", x.found(0, 0, 7, 1), 11);
    }

    /** Founds and ends a FEAST by turns until there are so many changes. */
    private static void changeTo(int changes) {
        for (int i = x.count(6); i < changes; i++) {
            if (x.count(1) == 0) {
                due("found", x.found(0, 0, 0, 1), 0);
            } else {
                due("ends", x.ends(0), 0);
            }
        }
        due("changes", x.count(6), changes);
    }

    private static void sixtyChanges() {
        Sentences.of(51, "or there were 60 changes (this, grant(), ends()) that are not taken back");
        x = Due.of(TWO, 3);
        due("a grant is one of them", x.grant(0, 7, 8), 0);
        due("so is this", x.found(0, 0, 0, 1), 0);
        due("and ends()", x.ends(0), 0);
        due("three", x.count(6), 3);
        changeTo(59);
        due("no FEAST", x.count(1), 0);
        due("the sixtieth", x.found(0, 0, 0, 1), 0);
        String before = Stays.of(x);
        due("no more", x.found(0, 0, 0, 1), -3);
        due("behind that: no such day", x.found(0, 0, 10, 1), -2);
        due("no TRUCE either", x.grant(0, 0, 0), -3);
        due("no end either", x.ends(0), -3);
        Stays.asBefore("the WAR", x, before);
        due("one is taken back", x.undo(), 59);
        due("one may come again", x.found(0, 0, 3, 1), 0);
        due("and no more", x.found(0, 0, 0, 1), -3);
        due("sixty", x.count(6), 60);
    }

    // ---- grant ----

    private static void grants() {
        Sentences.of(52, "A TRUCE comes: its number.");
        x = Due.of(TWO + "truce 1 from 3 to 4;", 4);
        due("it MAY ahead of that", x.why(0, 5), 0);
        due("the next", x.grant(0, 5, 7), 1);
        int[] parts = {0, 5, 7};
        for (int what = 0; what < 3; what++) {
            due("truce(1, " + what + ")", x.truce(1, what), parts[what]);
        }
        due("ahead of it", x.why(0, 4), 0);
        due("its first DAY", x.why(0, 5), 4);
        due("its last DAY", x.why(0, 7), 4);
        due("behind it", x.why(0, 8), 0);
        due("the last DAY", x.grant(1, 1999, 1999), 2);
        due("all DAYS", x.grant(1, 0, 1999), 3);
        due("three changes", x.count(6), 3);
    }

    private static void grantsRefused() {
        Sentences.of(52, "-2 likewise, no SPAN");
        x = Due.of(TWO, 3);
        String before = Stays.of(x);
        int[][] noSpans = {{5, 4}, {-1, 4}, {-1, -1}, {0, 2000}, {2000, 2000}, {1999, 1998}};
        for (int[] no : noSpans) {
            due("from " + no[0] + " to " + no[1], x.grant(0, no[0], no[1]), -2);
        }
        for (int far : FAR) {
            due("far from", x.grant(0, far, 1999), -2);
            due("far to", x.grant(0, 0, far), -2);
            due("far LAND", x.grant(far, 0, 1), -2);
        }
        due("LAND -1", x.grant(-1, 0, 1), -2);
        due("LAND 2", x.grant(2, 0, 1), -2);
        Stays.asBefore("the WAR", x, before);
        due("one DAY is a SPAN", x.grant(0, 5, 5), 0);
        due("no WAR", new TwoCalendars().grant(0, 0, 1), -2);
    }

    private static void twelveTruces() {
        Sentences.of(52, "-3, -2 likewise");
        x = Due.of(TWO + "truce 1 from 3 to 4;", 4);
        for (int i = 1; i < 12; i++) {
            due("TRUCE " + i, x.grant(0, i, i), i);
        }
        String before = Stays.of(x);
        due("a thirteenth", x.grant(0, 0, 0), -3);
        due("behind that: no SPAN", x.grant(0, 1, 0), -2);
        due("behind that: no such LAND", x.grant(2, 0, 0), -2);
        Stays.asBefore("the WAR", x, before);
        due("FEASTS may come still", x.found(0, 0, 0, 1), 0);
        due("taken back", x.undo(), 11);
        due("one is taken back", x.undo(), 10);
        due("a twelfth again", x.grant(0, 0, 0), 11);
        x = Due.of(TWO, 3);
        changeTo(59);
        due("the sixtieth", x.grant(0, 0, 0), 0);
        due("sixty changes", x.grant(0, 0, 0), -3);
        due("behind that: no SPAN, too", x.grant(0, 1, 0), -2);
        due("one TRUCE", x.count(2), 1);
        due("one is taken back then", x.undo(), 59);
        due("and may come again", x.grant(0, 1, 1), 0);
    }

    // ---- ends ----

    private static void ends() {
        Sentences.of(53, "The latest FEAST of a LAND ends (is none any more; later ones move down): its number.");
        x = Due.of(TWO + "feast 0 0 1 for 1;feast 1 0 0 for 2;feast 0 0 3 for 3;feast 1 0 0 for 4;", 7);
        due("it is on ahead of that", x.why(0, 3), 3);
        due("the latest of LAND 0", x.ends(0), 2);
        due("three are left", x.count(1), 3);
        due("the later one moved down", x.feast(2, 3), 4);
        due("with its LAND", x.feast(2, 0), 1);
        due("none behind it", x.feast(3, 0), -2);
        due("it is on no more", x.why(0, 3), 0);
        due("an older one is", x.why(0, 1), 3);
        due("the first", x.ends(0), 0);
        due("both moved down", x.feast(0, 3), 2);
        due("the second one, too", x.feast(1, 3), 4);
        due("the last", x.ends(1), 1);
        due("the very last", x.ends(1), 0);
        due("none is left", x.count(1), 0);
        due("four changes", x.count(6), 4);
    }

    private static void endsRefused() {
        Sentences.of(53, "-2: there is no such LAND");
        x = Due.of(TWO + "feast 0 0 1 for 1;", 4);
        String before = Stays.of(x);
        due("LAND 2", x.ends(2), -2);
        due("LAND -1", x.ends(-1), -2);
        for (int far : FAR) {
            due("far LAND", x.ends(far), -2);
        }
        Stays.asBefore("the WAR", x, before);
        due("no WAR", new TwoCalendars().ends(0), -2);
    }

    private static void endsOfNone() {
        Sentences.of(53, "-5 (behind that): it has none");
        x = Due.of(TWO + "feast 0 0 1 for 1;", 4);
        due("LAND 1 has none", x.ends(1), -5);
        due("the other's is left", x.count(1), 1);
        due("no change", x.count(6), 0);
        due("LAND 0 has one", x.ends(0), 0);
        due("and has none then", x.ends(0), -5);
        due("one change", x.count(6), 1);
        due("behind that: no such LAND", x.ends(2), -2);
        due("taken back", x.undo(), 0);
        due("it has one again", x.ends(0), 0);
    }

    private static void endsLast() {
        Sentences.of(53, "-3 (last): there were 60 changes");
        x = Due.of(TWO, 3);
        changeTo(58);
        due("a FEAST", x.found(0, 0, 0, 1), 0);
        due("the sixtieth is an end", x.ends(0), 0);
        due("it has none goes ahead", x.ends(0), -5);
        due("no such LAND goes ahead", x.ends(2), -2);
        due("taken back", x.undo(), 59);
        due("a TRUCE is the sixtieth", x.grant(0, 1, 1), 0);
        due("sixty changes", x.ends(0), -3);
        due("LAND 1 has none", x.ends(1), -5);
        due("the FEAST stays", x.count(1), 1);
        due("it is on", x.why(0, 0), 3);
        due("sixty", x.count(6), 60);
    }

    // ---- undo ----

    private static void undo() {
        Sentences.of(54, "The latest change by found(), grant(), ends() is taken back: how many there are.");
        x = Due.of(TWO + "feast 1 0 0 for 2;feast 0 0 1 for 1;feast 0 1 3 for 4;feast 1 0 0 for 5;", 7);
        String first = Stays.of(x);
        due("ends", x.ends(0), 2);
        due("found", x.found(0, 0, 7, 2), 3);
        due("grant", x.grant(0, 6, 6), 0);
        due("three changes", x.count(6), 3);
        due("grant taken back", x.undo(), 2);
        due("no TRUCE", x.count(2), 0);
        due("it MAY", x.why(0, 6), 0);
        due("found taken back", x.undo(), 1);
        due("three FEASTS", x.count(1), 3);
        due("it MAY there, too", x.why(0, 7), 0);
        due("it MAY on the ended one", x.why(0, 13), 0);
        due("ends taken back", x.undo(), 0);
        due("it is on again", x.why(0, 13), 3);
        Stays.asBefore("the WAR", x, first);
    }

    private static void undoRefused() {
        Sentences.of(54, "-5: there is none; -2: there is no WAR");
        x = Due.of(TWO + "feast 0 0 1 for 1;", 4);
        String before = Stays.of(x);
        due("there is none", x.undo(), -5);
        Stays.asBefore("the WAR", x, before);
        due("one", x.found(0, 0, 0, 1), 1);
        due("taken back", x.undo(), 0);
        due("there is none again", x.undo(), -5);
        due("another", x.found(0, 0, 0, 1), 1);
        due("no WAR then", x.war(), 0);
        due("there is no WAR", x.undo(), -2);
        due("no WAR at first", new TwoCalendars().undo(), -2);
        due("a WAR of one LINE", Due.of("war rain 0;", 1).undo(), -5);
    }

    // ---- rain ----

    private static TwoCalendars rain(int rain) {
        return Due.of("war rain " + rain + ";" + EVER, 2);
    }

    private static void draws() {
        Sentences.ofTerm("VI", "DRAWS: x becomes (1103515245 x + 12345) modulo 2,147,483,648 (at first it is the seed); a draw: x / 65536, cut, modulo 100.");
        // the draws of each seed: the n-th DAY is wet from one more than its draw on
        int[] seeds = {0, 1, 194, 2000000000};
        int[][] drawn = {{0, 68, 88, 17, 98, 27}, {38, 58, 13, 15, 51, 27}, {99, 69, 13}, {4, 33, 21, 7}};
        for (int s = 0; s < seeds.length; s++) {
            for (int n = 0; n < drawn[s].length; n++) {
                due("seed " + seeds[s] + ", dry DAY " + n, wet(drawn[s][n], seeds[s], n), 0);
                due("seed " + seeds[s] + ", wet DAY " + n, wet(drawn[s][n] + 1, seeds[s], n), 1);
            }
        }
    }

    /** Whether the n-th DAY from DAY 0 on has rain. */
    private static int wet(int rain, int seed, int n) {
        x = rain(rain);
        return x.drawn(seed, 0, n + 1, 0) - (n == 0 ? 0 : x.drawn(seed, 0, n, 0));
    }

    private static void wetDays() {
        Sentences.ofTerm("VI", "it rains, if it is below rain; nobody fights then.");
        due("rain 0", rain(0).drawn(0, 0, 100, 0), 0);
        due("rain 1, a draw of 0", rain(1).drawn(0, 0, 1, 0), 1);
        due("rain 99, a draw of 99", rain(99).drawn(194, 0, 1, 0), 0);
        due("rain 100, a draw of 99", rain(100).drawn(194, 0, 1, 0), 1);
        due("rain 100, all DAYS", rain(100).drawn(194, 0, 100, 0), 100);
        due("rain 68, a draw of 68", rain(68).drawn(0, 0, 2, 1), 1);
        due("rain 69, a draw of 68", rain(69).drawn(0, 0, 2, 1), 0);
        due("nobody fights in rain", rain(100).luck(0, 20, 0, 0, 100), 20);
        due("they fight without", rain(0).luck(0, 20, 0, 0, 1), 0);
        due("rain changes no MAY", rain(100).may(0, 0), 1);
    }

    private static void drawnSeeds() {
        Sentences.of(55, "RAIN (VI) from a seed (0 .. 2,000,000,000)");
        x = rain(5);
        due("seed -1", x.drawn(-1, 0, 1, 0), -2);
        due("seed 0", x.drawn(0, 0, 1, 0), 1);
        due("seed 1,999,999,999", x.drawn(1999999999, 0, 1, 0), 0);
        due("seed 2,000,000,000", x.drawn(2000000000, 0, 1, 0), 1);
        due("seed 2,000,000,001", x.drawn(2000000001, 0, 1, 0), -2);
        for (int far : FAR) {
            due("far seed", x.drawn(far, 0, 1, 0), -2);
        }
    }

    private static void drawnDays() {
        Sentences.of(55, "n (1 .. 100) DAYS (to the last one alone)");
        x = rain(50);
        due("n 0", x.drawn(1, 0, 0, 0), -2);
        due("n 1", x.drawn(1, 0, 1, 0), 1);
        due("n 99", x.drawn(1, 0, 99, 0), 51);
        due("n 100", x.drawn(1, 0, 100, 0), 52);
        due("n 100, dry", x.drawn(1, 0, 100, 1), 48);
        due("n 101", x.drawn(1, 0, 101, 0), -2);
        due("n -1", x.drawn(1, 0, -1, 0), -2);
        for (int far : FAR) {
            due("far n", x.drawn(1, 0, far, 0), -2);
        }
        x = rain(100);
        due("100 to the last one", x.drawn(1, 1900, 100, 0), 100);
        due("99 are left", x.drawn(1, 1901, 100, 0), 99);
        due("one is left", x.drawn(1, 1999, 100, 0), 1);
        due("one of the last two", x.drawn(1, 1998, 1, 0), 1);
        x = rain(0);
        due("dry, 99 are left", x.drawn(1, 1901, 100, 1), 99);
        due("dry, one is left", x.drawn(1, 1999, 2, 1), 1);
    }

    private static void drawnRefused() {
        Sentences.of(55, "what 0: DAYS of rain, 1: DAYS without on which all LANDS MAY. -2: there are none such, no WAR.");
        x = Due.of("war rain 0;" + EVER + EVER + "truce 0 from 3 to 4;truce 1 from 4 to 5;", 5);
        due("what 0", x.drawn(0, 0, 10, 0), 0);
        due("what 1", x.drawn(0, 0, 10, 1), 7);
        due("what 2", x.drawn(0, 0, 10, 2), -2);
        due("what -1", x.drawn(0, 0, 10, -1), -2);
        for (int far : FAR) {
            due("far what", x.drawn(0, 0, 10, far), -2);
        }
        for (int day : NO_DAYS) {
            due("DAY " + day, x.drawn(0, day, 10, 0), -2);
        }
        due("no WAR", new TwoCalendars().drawn(0, 0, 1, 0), -2);
        due("no LANDS", Due.of("war rain 0;", 1).drawn(0, 0, 10, 1), 10);
    }

    private static void lucks() {
        Sentences.of(56, "Of m (1 .. 20) such from seeds, the seed and 1, ..");
        // of the seeds from 0 on the first draws are 0, 38, 8, 47, .., the twentieth (seed 19) is 16, the next ones 86 and 24
        x = rain(17);
        due("m 0", x.luck(0, 0, 0, 0, 1), -2);
        due("m 1", x.luck(0, 1, 0, 0, 1), 1);
        due("m 2", x.luck(0, 2, 0, 0, 1), 1);
        due("m 3", x.luck(0, 3, 0, 0, 1), 2);
        due("m 19", x.luck(0, 19, 0, 0, 1), 3);
        due("m 20", x.luck(0, 20, 0, 0, 1), 4);
        due("m 21", x.luck(0, 21, 0, 0, 1), -2);
        due("m -1", x.luck(0, -1, 0, 0, 1), -2);
        for (int far : FAR) {
            due("far m", x.luck(0, far, 0, 0, 1), -2);
        }
        // from 2,000,000,000 on: 4, 42, 12, 51, .., 2 (the 16th), .., 11 (18th), 81, 20
        due("the last seed", x.luck(2000000000, 1, 0, 0, 1), 1);
        due("seeds beyond it", x.luck(2000000000, 3, 0, 0, 1), 2);
        due("twenty of them", x.luck(2000000000, 20, 0, 0, 1), 4);
        due("rain 20, the twentieth draws 20", rain(20).luck(2000000000, 20, 0, 0, 1), 4);
        due("rain 21, the twentieth draws 20", rain(21).luck(2000000000, 20, 0, 0, 1), 5);
        due("rain 21, without the twentieth", rain(21).luck(2000000000, 19, 0, 0, 1), 4);
    }

    private static void lucksRefused() {
        Sentences.of(56, "in how many a LAND fights on none of these DAYS. -2: there are none such.");
        x = Due.of("war rain 0;" + EVER + "land from 5 week 2 rests 0 year 1;truce 0 from 1900 to 1998;", 4);
        due("ahead of its count", x.luck(0, 20, 1, 0, 5), 20);
        due("to its first DAY", x.luck(0, 20, 1, 0, 6), 0);
        due("to the last DAY", x.luck(0, 20, 0, 1900, 100), 0);
        due("to the DAY ahead of it", x.luck(0, 20, 0, 1900, 99), 20);
        due("seed -1", x.luck(-1, 1, 0, 0, 1), -2);
        due("seed 2,000,000,000", x.luck(2000000000, 1, 0, 0, 1), 0);
        due("seed 2,000,000,001", x.luck(2000000001, 1, 0, 0, 1), -2);
        due("n 0", x.luck(0, 1, 0, 0, 0), -2);
        due("n 1", x.luck(0, 1, 0, 0, 1), 0);
        due("n 101", x.luck(0, 1, 0, 0, 101), -2);
        due("LAND 2", x.luck(0, 1, 2, 0, 1), -2);
        due("LAND -1", x.luck(0, 1, -1, 0, 1), -2);
        for (int day : NO_DAYS) {
            due("DAY " + day, x.luck(0, 1, 0, day, 1), -2);
        }
        for (int far : FAR) {
            due("far LAND", x.luck(0, 1, far, 0, 1), -2);
            due("far n", x.luck(0, 1, 0, 0, far), -2);
            due("far seed", x.luck(far, 1, 0, 0, 1), -2);
        }
        due("no WAR", new TwoCalendars().luck(0, 1, 0, 0, 1), -2);
    }

    // ---- counts and images ----

    private static void counts() {
        Sentences.of(57, "6 changes that are not taken back, 7 SLOTS that have a row. NONE for others.");
        x = Due.of(TWO + "feast 0 0 1 for 1;truce 0 from 1 to 2;truce 0 from 3 to 4;", 6);
        due("row", x.row(2, 0, 0), 0);
        due("found", x.found(0, 0, 0, 1), 1);
        due("grant", x.grant(0, 0, 0), 2);
        due("undo", x.undo(), 1);
        due("feed", x.feed(0, 0, 0, 0, 0), 20);
        int[] counts = {2, 2, 2, 30, 6, 20, 1, 1};
        for (int what = 0; what < counts.length; what++) {
            due("count(" + what + ")", x.count(what), counts[what]);
        }
        for (int what : new int[] {-1, 8, 9, Integer.MIN_VALUE, Integer.MAX_VALUE}) {
            due("count(" + what + ")", x.count(what), -1);
        }
        due("without a WAR", new TwoCalendars().count(8), -1);
    }

    private static void images() {
        Sentences.of(58, "IMAGE k (0 .. 2) keeps the WAR, and changes: 0.");
        x = Due.of(TWO + "feast 0 0 1 for 1;", 4);
        for (int k = 0; k < 3; k++) {
            due("a change", x.found(0, 0, k, 1), k + 1);
            due("image(" + k + ")", x.image(k), 0);
        }
        for (int k = 0; k < 3; k++) {
            due("back(" + k + ")", x.back(k), 0);
            due("FEASTS of " + k, x.count(1), k + 2);
            due("changes of " + k, x.count(6), k + 1);
        }
        due("in place of another", x.image(0), 0);
        due("another WAR", x.back(1), 0);
        due("its changes", x.count(6), 2);
        due("the other image", x.back(0), 0);
        due("has three", x.count(6), 3);
    }

    private static void imagesRefused() {
        Sentences.of(58, "-2: no such k");
        x = Due.of(TWO, 3);
        due("image(2)", x.image(2), 0);
        due("a change", x.grant(0, 0, 0), 0);
        String before = Stays.of(x);
        for (int k : new int[] {-1, 3, Integer.MIN_VALUE, Integer.MAX_VALUE}) {
            due("image(" + k + ")", x.image(k), -2);
        }
        Stays.asBefore("the WAR", x, before);
        due("IMAGE 0 has nothing", x.back(0), -6);
        due("IMAGE 1 has nothing", x.back(1), -6);
        due("IMAGE 2", x.back(2), 0);
        due("is without the change", x.count(6), 0);
    }

    private static void backs() {
        Sentences.of(59, "It is as IMAGE k has it: 0.");
        x = Due.of(TWO + "feast 0 0 1 for 1;truce 0 from 5 to 6;", 5);
        due("a change", x.ends(0), 0);
        due("one more", x.grant(1, 9, 9), 1);
        String kept = Stays.of(x);
        due("image", x.image(1), 0);
        due("taken back", x.undo(), 1);
        due("another change", x.found(1, 0, 0, 9), 0);
        due("back", x.back(1), 0);
        Stays.asBefore("the WAR", x, kept);
        due("its changes can be taken back", x.undo(), 1);
        due("all of them", x.undo(), 0);
        due("the FEAST is back", x.feast(0, 2), 1);
        due("no WAR then", x.war(), 0);
        due("image of that", x.image(0), 0);
        due("back from it", x.back(1), 0);
        due("the changes of the image are its own", x.count(6), 2);
        due("back to no WAR", x.back(0), 0);
        due("there is none", x.who(0), -2);
        due("nor to undo", x.undo(), -2);
    }

    private static void backsToOtherWars() {
        Sentences.of(59, "It is as IMAGE k has it");
        x = Due.of("war rain 1;land from 0 week 2 rests 0 year 7 3;feast 0 1 2 for 3;truce 0 from 4 to 5;", 4);
        due("an image of one LAND", x.image(0), 0);
        due("it MAY", x.who(0), 1);
        String small = Stays.of(x);
        Due.feed(x, "war rain 99;land from 2 week 10 rests 3 year 1 2 3 4 5 6 7 8 leap 2 in 7 adds 9;" + LONG + EVER
            + "feast 0 0 0 for 9;feast 1 0 0 for 9;truce 0 from 0 to 1999;truce 2 from 5 to 6;");
        due("eight LINES", x.war(), 8);
        due("a change", x.ends(0), 0);
        due("an image of three LANDS", x.image(2), 0);
        String large = Stays.of(x);
        due("back to the first", x.back(0), 0);
        Stays.asBefore("the first WAR", x, small);
        due("a date of the first", x.date(0, 17, 1), 1);
        due("turned back in the first", x.day(0, 3, 1, 2), 39);
        due("the first one's period", x.period(0), 10);
        due("back to the second", x.back(2), 0);
        Stays.asBefore("the second WAR", x, large);
        due("its change taken back", x.undo(), 0);
        due("the FEAST's days", x.feast(0, 3), 9);
        due("its LAND", x.feast(0, 0), 0);
        due("a date of it", x.date(1, 1999, 0), 57);
        due("turned back", x.day(1, 57, 0, 0), 1971);
        due("its period", x.period(1), 483);
    }

    private static void backsRefused() {
        Sentences.of(59, "-2: no such k; -6: it has nothing");
        x = new TwoCalendars();
        for (int k = 0; k < 3; k++) {
            due("IMAGE " + k + " of a new object", x.back(k), -6);
        }
        x = Due.of(TWO, 3);
        due("a change", x.grant(0, 0, 0), 0);
        due("image(1)", x.image(1), 0);
        due("a second change", x.grant(0, 0, 0), 1);
        String before = Stays.of(x);
        for (int k : new int[] {-1, 3, Integer.MIN_VALUE, Integer.MAX_VALUE}) {
            due("back(" + k + ")", x.back(k), -2);
        }
        due("IMAGE 0", x.back(0), -6);
        due("IMAGE 2", x.back(2), -6);
        Stays.asBefore("the WAR", x, before);
        due("IMAGE 1", x.back(1), 0);
        due("one change", x.count(6), 1);
    }
}
