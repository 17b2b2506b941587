/** Each promise by answers worked out by hand. */
public final class PromiseTests {
    // land 0: years of 31 and 30 days by turns, rests on weekdays 5 and 6, a feast on days 2, 33, ..
    // land 1: from day 3, years of 12 days, rests on days 4, 9, .., feasts on 8 and 9, 20 and 21, ..
    private static final String WAR = "war rain 30;\n"
        + "land from 0 week 7 rests 96 year 10 20 leap 2 in 1 adds 1;\n"
        + "land from 3 week 5 rests 2 year 12;\n"
        + "feast 0 0 2 for 1; feast 1 0 5 for 2;\n"
        + "truce 0 from 40 to 45; truce 1 from 44 to 60; truce 0 from 45 to 45;\n";
    private static final int LINES = 8;

    private static TwoCalendars x = new TwoCalendars();

    public static void main(String[] args) {
        newObject();
        tape();
        warAndFaults();
        faultsOfCutTapes();
        faultsOfLands();
        faultsOfFeastsAndTruces();
        tooMany();
        parts();
        dates();
        whoMay();
        sets();
        meetings();
        saints();
        bridges();
        orders();
        ordersRefused();
        seen();
        seenRefused();
        asked();
        truces();
        ages();
        marches();
        games();
        changes();
        changesRefused();
        rain();
        counts();
        images();
        rows();
        Due.finish("PromiseTests");
    }

    private static void due(String call, long got, long want) {
        Due.is(call, got, want);
    }

    private static void newObject() {
        x = new TwoCalendars();
        for (int what = 0; what < 8; what++) {
            due("new count " + what, x.count(what), 0);
        }
        due("new fault 0", x.fault(0), 0);
        due("new fault 1", x.fault(1), -1);
        due("new fault 2", x.fault(2), -1);
        due("new who", x.who(0), -2);
        due("new next", x.next(0, 0), -2);
        due("new undo", x.undo(), -2);
        due("new back", x.back(0), -6);
        due("constant", TwoCalendars.NONE, -1);
    }

    private static void tape() {
        x = new TwoCalendars();
        due("end 1 of 0", x.end(1), -1);
        due("end 0 of 0", x.end(0), 0);
        for (int i = 1; i <= 60; i++) {
            due("feed " + i, x.feed(0x20202020, 0x0a0a0a0a, 0x20202020, 0x20202020, 0x20202020), 20 * i);
        }
        due("feed 61", x.feed(0, 0, 0, 0, 0), -1);
        due("all bytes", x.count(5), 1200);
        due("end 1201", x.end(1201), -1);
        due("end below", x.end(-1), -1);
        due("end 1181", x.end(1181), 1181);
        due("no room for twenty", x.feed(0, 0, 0, 0, 0), -1);
        due("still 1181", x.count(5), 1181);
        due("end 1180", x.end(1180), 1180);
        due("room for twenty", x.feed(0x20202020, 0x20202020, 0x20202020, 0x20202020, 0x20202041), 1200);
        due("the last byte is strange", x.war(), -4);
        due("its place", x.fault(1), 1199);
        due("cut", x.end(1199), 1199);
        due("blanks alone", x.war(), 0);
        due("tape is empty", x.count(5), 0);
        due("highest first", x.feed(0x77617220, 0x7261696e, 0x20373b20, 0x20202020, 0x20202020), 20);
        due("war rain 7;", x.war(), 1);
        due("rain", x.count(3), 7);
    }

    private static void fault(String text, int kind, int place) {
        Due.feed(x, text);
        due("war() of " + text, x.war(), kind == 0 ? 1 : -4);
        due("kind of " + text, x.fault(0), kind);
        due("place of " + text, x.fault(1), place);
        due("another of " + text, x.fault(-1), -1);
        due("tape of " + text, x.count(5), kind == 0 ? 0 : text.length());
    }

    private static void warAndFaults() {
        x = Due.of(WAR, LINES);
        due("lands", x.count(0), 2);
        fault("war rain 101;", 2, 9);
        due("the war stays", x.count(4), LINES);
        due("the lands stay", x.count(0), 2);
        fault("land from 0 week 7 rests 0 year 5;", 1, 0);
        fault("feast 0 0 0 for 1;", 1, 0);
        fault("truce 0 from 0 to 0;", 1, 0);
        fault(" ;", 1, 1);
        fault("7;", 1, 0);
        fault("war", 1, 3);
        fault("war ", 1, 4);
        fault("war rain", 1, 8);
        fault("war rain ;", 1, 9);
        fault("war rain x;", 1, 9);
        fault("war 5;", 1, 4);
        fault("warrain 5;", 1, 0);
        fault("wa rain 5;", 1, 0);
        fault("War rain 5;", 1, 0);
        fault("war rain 5", 1, 10);
        fault("war rain 5 \n ", 1, 13);
        fault("war rain 5 5;", 1, 11);
        fault("war rain 5;;", 1, 11);
        fault("war rain 5;war rain 5;", 1, 11);
        fault("war rain 5;rain 5;", 1, 11);
        fault("war rain 5;\tland", 1, 11);
        fault("war rain 5;\r", 1, 11);
        fault("war rain -5;", 1, 9);
        fault("war rain \u00e9;", 1, 9);
        fault("war rain 99999999999999999999999999;", 2, 9);
        fault("war rain 4294967297;", 2, 9);
        fault("war rain 200 #", 2, 9);
        fault("war rain 00000000000000000100;", 0, -1);
        due("leading zeros", x.count(3), 100);
        fault("\n war\nrain0 ; \n", 0, -1);
        due("rain 0", x.count(3), 0);
        due("no lands", x.count(0), 0);
        fault("warz rain 5;", 1, 0);
        fault("war rain 100;", 0, -1);
        fault("war rain 5;", 0, -1);
        due("empty tape", x.war(), 0);
        due("no rain without a war", x.count(3), 0);
        due("no war", x.who(0), -2);
        due("no lines", x.count(4), 0);
        due("no fault", x.fault(0), 0);
    }

    /** What was cut from the tape is not read, be it blank, letter or digit. */
    private static void faultsOfCutTapes() {
        x = new TwoCalendars();
        int[][] cuts = {{2, 0}, {3, 3}, {6, 4}, {8, 8}, {9, 9}, {11, 11}, {12, 12}, {13, 13}};
        for (int[] cut : cuts) {
            Due.feed(x, "war rain 100 ;");
            due("cut at " + cut[0], x.end(cut[0]), cut[0]);
            due("war cut at " + cut[0], x.war(), -4);
            due("kind cut at " + cut[0], x.fault(0), 1);
            due("place cut at " + cut[0], x.fault(1), cut[1]);
        }
        Due.feed(x, "war rain 100;");
        due("cut behind the first digit", x.end(10), 10);
        due("fed on", x.feed(0x3b202020, 0x20202020, 0x20202020, 0x20202020, 0x20202020), 30);
        due("war rain 1;", x.war(), 1);
        due("rain", x.count(3), 1);
    }

    private static void faultOfLine(String line, int kind, int place) {
        String head = "war rain 0;";
        String text = head + line;
        Due.feed(x, text);
        due("war() of " + text, x.war(), kind == 0 ? 2 : -4);
        due("kind of " + text, x.fault(0), kind);
        due("place of " + text, x.fault(1), kind == 0 ? -1 : place + head.length());
    }

    private static void faultsOfLands() {
        x = new TwoCalendars();
        faultOfLine("land week 7", 1, 5);
        faultOfLine("land from 1000", 2, 10);
        faultOfLine("land from 999 week 1", 2, 19);
        faultOfLine("land from 999 week 11", 2, 19);
        faultOfLine("land from 0 week 2 rests 3", 2, 25);
        faultOfLine("land from 0 week 2 rests 4", 2, 25);
        faultOfLine("land from 0 week 2 rests 2 year 1;", 0, 0);
        faultOfLine("land from 0 week 10 rests 1023 year 1;", 2, 26);
        faultOfLine("land from 0 week 10 rests 1022 year 1;", 0, 0);
        faultOfLine("land from 0 week 9 rests 512 year 1;", 2, 25);
        faultOfLine("land from 0 week 9 rests 510 year 1;", 0, 0);
        faultOfLine("land from 0 week 9 rests 510 year;", 1, 33);
        faultOfLine("land from 0 week 9 rests 510 year leap 2", 1, 34);
        faultOfLine("land from 0 week 9 rests 510 year 0;", 2, 34);
        faultOfLine("land from 0 week 9 rests 510 year 61;", 2, 34);
        faultOfLine("land from 0 week 9 rests 510 year 60 0;", 2, 37);
        faultOfLine("land from 0 week 9 rests 510 year 1 2 3 4 5 6 7 8;", 0, 0);
        faultOfLine("land from 0 week 9 rests 510 year 1 2 3 4 5 6 7 8 9;", 3, 50);
        faultOfLine("land from 0 week 9 rests 510 year 1 2 3 4 5 6 7 8 1;", 3, 50);
        faultOfLine("land from 0 week 9 rests 510 year 1 2 3 4 5 6 7 8 60;", 3, 50);
        faultOfLine("land from 0 week 9 rests 510 year 1 2 3 4 5 6 7 8 61;", 2, 50);
        faultOfLine("land from 0 week 9 rests 510 year 1 2 3 4 5 6 7 8 0;", 2, 50);
        faultOfLine("land from 0 week 9 rests 510 year 1 2 3 4 5 6 7 61 9;", 2, 48);
        faultOfLine("land from 0 week 9 rests 510 year 1 2 3 4 5 6 7 8 leap 2 in 7 adds 9;", 0, 0);
        faultOfLine("land from 0 week 9 rests 510 year 1 2 leap 1 in 0 adds 1;", 2, 43);
        faultOfLine("land from 0 week 9 rests 510 year 1 2 leap 10 in 0 adds 1;", 2, 43);
        faultOfLine("land from 0 week 9 rests 510 year 1 2 leap 9 in 2 adds 1;", 2, 48);
        faultOfLine("land from 0 week 9 rests 510 year 1 2 leap 9 in 1 adds 0;", 2, 55);
        faultOfLine("land from 0 week 9 rests 510 year 1 2 leap 9 in 1 adds 10;", 2, 55);
        faultOfLine("land from 0 week 9 rests 510 year 1 2 leap 9 in 1;", 1, 49);
        faultOfLine("land from 0 week 9 rests 510 year 1 2 leap 9 in 1 adds 9 9;", 1, 57);
        faultOfLine("land from 0 week 9 rests 510 year 1 2 land", 1, 38);
        faultOfLine("land from 0 week 9 rests 510 year 1 2", 1, 37);
        faultOfLine("landfrom0week9rests510year1 2;", 1, 0);
        faultOfLine("land from0week9rests510year1 2leap2in1adds3;", 0, 0);
        due("leap read", x.land(0, 4), 2);
        due("adds read", x.land(0, 6), 3);
    }

    private static void faultsOfFeastsAndTruces() {
        String land = "land from 0 week 7 rests 0 year 10 20 leap 2 in 0 adds 5;";
        int at = land.length();
        x = new TwoCalendars();
        faultOfLine("feast 0 0 0 for 1;", 2, 6);
        faultOfLine("truce 0 from 0 to 0;", 2, 6);
        faultOfLine(land + "feast 1 0 0 for 1;", 2, at + 6);
        faultOfLine(land + "feast 0 2 0 for 1;", 2, at + 8);
        faultOfLine(land + "feast 0 0 10 for 1;", 2, at + 10);
        faultOfLine(land + "feast 0 1 20 for 1;", 2, at + 10);
        faultOfLine(land + "feast 0 1 19 for 0;", 2, at + 17);
        faultOfLine(land + "feast 0 1 19 for 10;", 2, at + 17);
        faultOfLine(land + "feast 0 1 19 from 1;", 1, at + 13);
        faultOfLine(land + "feast 0 1 for 1;", 1, at + 10);
        faultOfLine(land + "truce 1 from 0 to 0;", 2, at + 6);
        faultOfLine(land + "truce 0 from 2000 to 0;", 2, at + 13);
        faultOfLine(land + "truce 0 from 5 to 4;", 2, at + 18);
        faultOfLine(land + "truce 0 from 5 to 2000;", 2, at + 18);
        faultOfLine(land + "truce 0 from 5 for 5;", 1, at + 15);
        faultOfLine(land + "truce 0 to 5;", 1, at + 8);
        Due.feed(x, "war rain 0;" + land + "feast 0 1 19 for 9;truce 0 from 1999 to 1999;");
        due("edges", x.war(), 4);
        due("its days", x.feast(0, 3), 9);
        due("its end", x.truce(0, 2), 1999);
    }

    private static void tooMany() {
        StringBuilder text = new StringBuilder("war rain 0;");
        String land = "land from 0 week 2 rests 0 year 1;";
        x = Due.of(text + land + land + land, 4);
        Due.feed(x, text + land + land + land + "land from 0 week 2 rests 0 year #");
        due("fourth land", x.war(), -4);
        due("fourth land's kind", x.fault(0), 3);
        due("fourth land's place", x.fault(1), 11 + 3 * land.length());
        String feast = "feast 0 0 0 for 1;";
        text.append(land).append(feast.repeat(12));
        Due.feed(x, text.toString());
        due("twelve feasts", x.war(), 14);
        Due.feed(x, text + " feast");
        due("thirteenth feast", x.war(), -4);
        due("thirteenth feast's kind", x.fault(0), 3);
        due("thirteenth feast's place", x.fault(1), text.length() + 1);
        String truce = "truce 0 from 0 to 9;";
        text.append(truce.repeat(12));
        Due.feed(x, text.toString());
        due("twelve truces", x.war(), 26);
        Due.feed(x, text + "truce#");
        due("thirteenth truce", x.war(), -4);
        due("thirteenth truce's kind", x.fault(0), 3);
        due("thirteenth truce's place", x.fault(1), text.length());
    }

    private static void parts() {
        x = Due.of(WAR, LINES);
        int[] first = {0, 7, 96, 2, 2, 1, 1};
        int[] second = {3, 5, 2, 1, 0, -1, 0};
        for (int what = 0; what < 7; what++) {
            due("land 0 " + what, x.land(0, what), first[what]);
            due("land 1 " + what, x.land(1, what), second[what]);
        }
        due("land 2", x.land(2, 0), -2);
        due("land -1", x.land(-1, 0), -2);
        due("land what 7", x.land(0, 7), -2);
        due("land what -1", x.land(0, -1), -2);
        due("leap month", x.month(0, 1, 0), 21);
        due("plain month", x.month(0, 1, 1), 20);
        due("leap again", x.month(0, 1, 1998), 21);
        due("other month", x.month(0, 0, 0), 10);
        due("no month", x.month(0, 2, 0), -2);
        due("no year", x.month(0, 0, 2000), -2);
        due("year below", x.month(0, 0, -1), -2);
        due("month below", x.month(0, -1, 0), -2);
        due("month of none", x.month(2, 0, 0), -2);
        int[] feast = {1, 0, 5, 2};
        for (int what = 0; what < 4; what++) {
            due("feast 1 " + what, x.feast(1, what), feast[what]);
        }
        due("feast 2", x.feast(2, 0), -2);
        due("feast -1", x.feast(-1, 0), -2);
        due("feast what 4", x.feast(0, 4), -2);
        due("feast what -1", x.feast(1, -1), -2);
        int[] truce = {1, 44, 60};
        for (int what = 0; what < 3; what++) {
            due("truce 1 " + what, x.truce(1, what), truce[what]);
        }
        due("truce 3", x.truce(3, 0), -2);
        due("truce -1", x.truce(-1, 0), -2);
        due("truce what 3", x.truce(0, 3), -2);
        due("truce what -1", x.truce(1, -1), -2);
    }

    private static void date(int land, int day, int year, int month, int monthDay, int weekday) {
        String call = "date " + land + " of " + day;
        due(call + " year", x.date(land, day, 0), year);
        due(call + " month", x.date(land, day, 1), month);
        due(call + " day", x.date(land, day, 2), monthDay);
        due(call + " weekday", x.date(land, day, 3), weekday);
        if (year >= 0) {
            due(call + " turned back", x.day(land, year, month, monthDay), day);
        }
    }

    private static void dates() {
        x = Due.of(WAR, LINES);
        date(0, 0, 0, 0, 0, 0);
        date(0, 9, 0, 0, 9, 2);
        date(0, 10, 0, 1, 0, 3);
        date(0, 30, 0, 1, 20, 2);
        date(0, 31, 1, 0, 0, 3);
        date(0, 60, 1, 1, 19, 4);
        date(0, 61, 2, 0, 0, 5);
        date(0, 1999, 65, 1, 6, 4);
        date(1, 2, -1, -1, -1, -1);
        date(1, 3, 0, 0, 0, 0);
        date(1, 15, 1, 0, 0, 2);
        date(1, 1999, 166, 0, 4, 1);
        due("date what 4", x.date(0, 0, 4), -2);
        due("date what 4 ahead", x.date(1, 0, 4), -2);
        due("date what -1", x.date(0, 0, -1), -2);
        due("date day 2000", x.date(0, 2000, 0), -2);
        due("date day -1", x.date(0, -1, 0), -2);
        due("date land 2", x.date(2, 0, 0), -2);
        due("day of a plain year", x.day(0, 1, 1, 20), -2);
        due("day of a leap year", x.day(0, 0, 1, 20), 30);
        due("day below", x.day(0, 0, 0, -1), -2);
        due("day month 2", x.day(0, 0, 2, 0), -2);
        due("day land 2", x.day(2, 0, 0, 0), -2);
        due("day year 2000", x.day(0, 2000, 0, 0), -2);
        due("day year -1", x.day(0, -1, 0, 0), -2);
        due("day behind all", x.day(0, 1999, 0, 0), -1);
        due("day 2000", x.day(0, 65, 1, 7), -1);
        due("no date behind all", x.day(0, 1999, 0, 10), -2);
    }

    private static void whoMay() {
        x = Due.of(WAR, LINES);
        int[] first = {0, 0, 3, 0, 0, 2, 2, 0, 0, 0, 0, 0, 2, 2};
        int[] second = {1, 1, 1, 0, 2, 0, 0, 0, 3, 2, 0, 0, 0, 0};
        for (int day = 0; day < first.length; day++) {
            due("why 0 " + day, x.why(0, day), first[day]);
            due("why 1 " + day, x.why(1, day), second[day]);
            due("may 0 " + day, x.may(0, day), first[day] == 0 ? 1 : 0);
            due("may 1 " + day, x.may(1, day), second[day] == 0 ? 1 : 0);
            due("who " + day, x.who(day), (first[day] == 0 ? 1 : 0) + (second[day] == 0 ? 2 : 0));
        }
        due("a rest in a truce", x.why(0, 40), 2);
        due("ahead of a truce", x.why(0, 39), 0);
        due("a truce", x.why(0, 42), 4);
        due("its last day", x.why(0, 45), 4);
        due("behind it", x.why(0, 46), 0);
        due("a feast in a truce", x.why(1, 45), 3);
        due("a truce of the other", x.why(1, 46), 4);
        due("why day 2000", x.why(0, 2000), -2);
        due("why land 2", x.why(2, 0), -2);
        due("may day -1", x.may(0, -1), -2);
        due("may land -1", x.may(-1, 0), -2);
        due("who 2000", x.who(2000), -2);
        due("who -1", x.who(-1), -2);
        // a feast on the last day of the year that goes on into the next one, and over the leap days
        x = Due.of("war rain 0;land from 5 week 10 rests 512 year 3 4 leap 3 in 1 adds 2;feast 0 1 3 for 4;", 3);
        int[] reasons = {1, 1, 1, 1, 1, 0, 0, 0, 0, 0, 0, 3, 3, 3, 2, 0, 0, 0, 0, 0, 3, 3, 3, 3, 2, 0, 0, 3};
        for (int day = 0; day < reasons.length; day++) {
            due("why of the long feast " + day, x.why(0, day), reasons[day]);
        }
        x = Due.of("war rain 0;", 1);
        due("who of no lands", x.who(0), 0);
        due("next of no lands", x.next(0, 7), 7);
        due("next of land 0, not there", x.next(1, 7), -2);
    }

    private static void sets() {
        x = Due.of(WAR, LINES);
        due("next 3 0", x.next(3, 0), 3);
        due("next 3 3", x.next(3, 3), 3);
        due("next 3 4", x.next(3, 4), 7);
        due("next 3 8", x.next(3, 8), 10);
        due("next 0 9", x.next(0, 9), 9);
        due("next 1 5", x.next(1, 5), 7);
        due("next 2 1999", x.next(2, 1999), -1);
        due("next 4", x.next(4, 0), -2);
        due("next -1", x.next(-1, 0), -2);
        due("next 2000", x.next(1, 2000), -2);
        due("many 3", x.many(3, 0, 12), 4);
        due("many 1", x.many(1, 0, 6), 4);
        due("many 0", x.many(0, 0, 9), 10);
        due("many one", x.many(1, 0, 0), 1);
        due("many no span", x.many(3, 5, 4), -2);
        due("many 4", x.many(4, 0, 1), -2);
        due("many beyond", x.many(0, 0, 2000), -2);
        due("many below", x.many(0, -1, 2), -2);
        due("waits 3", x.waits(3, 0, 12), 3);
        due("waiting 3", x.waiting(3, 0, 12), 0);
        due("waits 3 from 1", x.waits(3, 1, 12), 3);
        due("waiting 3 from 1", x.waiting(3, 1, 12), 4);
        due("waits 0", x.waits(0, 0, 5), 0);
        due("waiting 0", x.waiting(0, 0, 5), -1);
        due("waits no span", x.waits(1, 5, 4), -2);
        due("waiting no span", x.waiting(1, 5, 4), -2);
        due("waits cut by the span", x.waits(2, 1, 2), 2);
        due("share above", x.share(3, 0, 12, 0), 4);
        due("share below", x.share(3, 0, 12, 1), 13);
        due("share cut above", x.share(3, 0, 7, 0), 1);
        due("share cut below", x.share(3, 0, 7, 1), 4);
        due("share nothing above", x.share(2, 0, 2, 0), 0);
        due("share nothing below", x.share(2, 0, 2, 1), 1);
        due("share all below", x.share(0, 0, 1999, 1), 1);
        due("share what 2", x.share(0, 0, 1999, 2), -2);
        due("share what -1", x.share(0, 0, 1999, -1), -2);
        due("share no span", x.share(0, 1, 0, 0), -2);
    }

    private static void meetings() {
        x = Due.of(WAR, LINES);
        due("meets in both counts", x.meets(0, 0, 1, 2, 0), 35);
        due("meets on the day", x.meets(0, 0, 1, 2, 35), 35);
        due("meets later", x.meets(0, 0, 1, 2, 36), 70);
        due("meets turned", x.meets(1, 2, 0, 0, 36), 70);
        due("meets the last", x.meets(0, 0, 1, 2, 1995), 1995);
        due("meets beyond", x.meets(0, 0, 1, 2, 1996), -1);
        due("meets weekday 5", x.meets(0, 0, 1, 5, 0), -2);
        due("meets weekday 7", x.meets(0, 7, 1, 0, 0), -2);
        due("meets weekday -1", x.meets(0, -1, 1, 0, 0), -2);
        due("meets weekly -1", x.meets(0, 0, 1, -1, 0), -2);
        due("meets twice", x.meets(0, 0, 0, 0, 0), -2);
        due("meets day", x.meets(0, 0, 1, 0, 2000), -2);
        due("period with leap", x.period(0), 427);
        due("period without", x.period(1), 60);
        due("period of none", x.period(2), -2);
        due("alike", x.alike(0, 1, 0), 183);
        due("alike behind", x.alike(0, 1, 184), 184);
        due("alike again", x.alike(1, 0, 193), 519);
        due("alike twice", x.alike(1, 1, 0), -2);
        due("alike day", x.alike(0, 1, -1), -2);
        due("alike land", x.alike(0, 2, 0), -2);
        due("years 0", x.years(0), 1);
        due("years 1", x.years(1), 0);
        due("years 3", x.years(3), 2);
        due("years 31", x.years(31), 1);
        due("years 183", x.years(183), 3);
        due("years 2000", x.years(2000), -2);
        due("comes 0", x.comes(0, 0), 336);
        due("comes 1", x.comes(1, 3), 63);
        due("comes ahead", x.comes(1, 2), -1);
        due("comes none", x.comes(1, 1940), -1);
        due("comes last", x.comes(1, 1939), 1999);
        due("comes land", x.comes(2, 0), -2);
        due("comes day", x.comes(0, 2000), -2);
        x = Due.of("war rain 0;land from 0 week 4 rests 0 year 5;land from 1 week 2 rests 0 year 7;", 3);
        due("meets never", x.meets(0, 0, 1, 0, 0), -1);
        due("meets on odd days", x.meets(0, 1, 1, 0, 0), 1);
        due("alike from the start", x.alike(0, 1, 0), 15);
        due("period of coprimes", x.period(0), 20);
    }

    private static void saints() {
        x = Due.of(WAR, LINES);
        saint(0, 0, 0, 1, 1, 7, 923);
        saint(0, 0, 0, 1, 3, 3, 137);
        saint(0, 1, 0, 1, 1, -1, -1);
        saint(0, 1, 0, 1, 2, 9, 1 + 16 + 64 + 256 + 2048 + 8192 + 32768 + (1 << 18) + (1 << 19));
        saint(0, 1, 0, 1, 9, 3, 1 + (1 << 11) + (1 << 19));
        saint(0, 0, 0, 2, 9, 2, 513);
        saint(0, 0, 1999, 20, 9, 0, 0);
        saint(0, 0, 65, 1, 9, 2, 1 + (1 << 9));
        saint(2, 0, 0, 1, 1, -2, -2);
        saint(0, 2, 0, 1, 1, -2, -2);
        saint(0, -1, 0, 1, 1, -2, -2);
        saint(0, 0, -1, 1, 1, -2, -2);
        saint(0, 0, 2000, 1, 1, -2, -2);
        saint(0, 0, 0, 0, 1, -2, -2);
        saint(0, 0, 0, 21, 1, -2, -2);
        saint(0, 0, 0, 20, 0, -2, -2);
        saint(0, 0, 0, 20, 10, -2, -2);
        // what a feast reaches in the next year's month is not looked at, and all bits of a long month count
        x = Due.of("war rain 0;land from 0 week 2 rests 0 year 60;land from 0 week 2 rests 1 year 1 leap 2 in 0 adds 9;", 3);
        saint(0, 0, 0, 20, 1, 60, (1L << 60) - 1);
        saint(0, 0, 0, 20, 9, 7, 1L | 1L << 9 | 1L << 18 | 1L << 27 | 1L << 36 | 1L << 45 | 1L << 54);
        saint(0, 0, 33, 1, 9, 3, 1L | 1L << 9 | 1L << 18);
        saint(1, 0, 0, 1, 9, -1, -1);
        saint(1, 0, 1, 1, 1, 0, 0);
    }

    private static void saint(int land, int month, int year, int years, int n, int fewest, long days) {
        String call = " " + land + " " + month + " " + year + " " + years + " " + n;
        due("saints" + call, x.saints(land, month, year, years, n), fewest);
        due("founded" + call, x.founded(land, month, year, years, n), days);
    }

    private static void bridges() {
        x = Due.of(WAR, LINES);
        bridge(0, 0, 12, 0, 2, 5);
        bridge(0, 0, 12, 1, 3, 4);
        bridge(0, 0, 12, 2, 5, 2);
        bridge(0, 0, 12, 9, 13, 0);
        bridge(0, 0, 0, 0, 0, -1);
        bridge(0, 0, 0, 1, 1, 0);
        bridge(1, 0, 4, 1, 5, 0);
        bridge(0, 0, 12, 10, -2, -2);
        bridge(0, 0, 12, -1, -2, -2);
        bridge(0, 1, 0, 0, -2, -2);
        bridge(2, 0, 0, 0, -2, -2);
        bridge(0, 0, 2000, 0, -2, -2);
    }

    private static void bridge(int land, int from, int to, int n, int length, int start) {
        String call = " " + land + " " + from + " " + to + " " + n;
        due("bridge" + call, x.bridge(land, from, to, n), length);
        due("bridged" + call, x.bridged(land, from, to, n), start);
    }

    private static void fill(int slot, int width, long... numbers) {
        due("row", x.row(slot, width, numbers.length), 0);
        for (int i = 0; i < numbers.length; i++) {
            due("write", x.write(slot, i, numbers[i]), 0);
        }
    }

    private static void orders() {
        x = Due.of(WAR, LINES);
        // days 31, 30 (a rest day: 30 % 7 is 2, so none), 4 (a rest of land 1), 31
        fill(0, 1, 0, 1, 0, 0, 0, 0, 1, 20, 1, 0, 0, 1, 0, 1, 0, 0);
        due("oldest", x.oldest(0), 2);
        due("older than 0", x.older(0, 0), 2);
        due("older than 1", x.older(0, 1), 1);
        due("older than 2", x.older(0, 2), 0);
        due("older than 3", x.older(0, 3), 2);
        due("older than 4", x.older(0, 4), -1);
        due("older than -1", x.older(0, -1), -1);
        due("apart", x.apart(0), 27);
        due("idle", x.idle(0), 1);
        // the first of several, and days on which who dated them may not fight
        fill(1, 2, 0, 0, 0, 5, 0, 0, 0, 2, 1, 0, 0, 5, 0, 0, 0, 2);
        due("first of several", x.oldest(1), 1);
        due("idle of several", x.idle(1), 4);
        due("older of several", x.older(1, 0), 2);
        fill(2, 3);
        due("oldest of none", x.oldest(2), -1);
        due("older of none", x.older(2, 0), -1);
        due("apart of none", x.apart(2), -1);
        due("idle of none", x.idle(2), 0);
        due("fifteen orders", x.row(2, 3, 60), 0);
        due("older than the fifteenth", x.older(2, 14), 0);
        due("no sixteenth", x.older(2, 15), -1);
        due("the oldest of fifteen", x.oldest(2), 0);
        due("the last is younger", x.write(2, 59, 2), 0);
        due("older than the last", x.older(2, 14), 14);
        due("the last is idle", x.idle(2), 1);
        fill(2, 0, 1, 0, 0, 0);
        due("oldest of one", x.oldest(2), 0);
        due("apart of one", x.apart(2), 0);
        fill(2, 1, 1, 166, 0, 4);
        due("the last day", x.apart(2), 0);
    }

    private static void ordersAll(String what, int slot, int want) {
        due("oldest " + what, x.oldest(slot), want);
        due("older " + what, x.older(slot, 0), want);
        due("apart " + what, x.apart(slot), want);
        due("idle " + what, x.idle(slot), want);
    }

    private static void ordersRefused() {
        x = Due.of(WAR, LINES);
        ordersAll("of nothing", 0, -6);
        ordersAll("of slot 4", 4, -2);
        ordersAll("of slot -1", -1, -2);
        fill(0, 3, 0, 0, 0);
        ordersAll("not four each", 0, -2);
        long[][] bad = {{2, 0, 0, 0}, {-1, 0, 0, 0}, {0, 2000, 0, 0}, {0, -1, 0, 0}, {0, 0, 2, 0}, {0, 0, -1, 0},
            {0, 0, 0, 10}, {0, 0, 0, -1}, {0, 1, 1, 20}, {0, 1999, 0, 0}, {1, 166, 0, 5}, {4294967296L, 0, 0, 0},
            {0, 4294967296L, 0, 0}, {0, 0, 4294967296L, 0}, {0, 0, 0, 4294967296L}, {Long.MIN_VALUE, 0, 0, 0}};
        for (long[] order : bad) {
            fill(0, 3, 0, 0, 0, 0, order[0], order[1], order[2], order[3]);
            ordersAll("with " + order[0] + " " + order[1] + " " + order[2] + " " + order[3], 0, -2);
        }
        x.war();
        ordersAll("without a war", 0, -2);
        ordersAll("of nothing without a war", 1, -2);
    }

    private static void seen() {
        x = Due.of(WAR, LINES);
        // land 0 on its weekday 0: 0, 7, 14, ..; land 1 may: 7, 28 (25 % 5 is 0), 35, ..
        fill(1, 0, 0, 3, 0, 1, 4, 1);
        due("fits", x.fits(1, 0, 40), 3);
        due("fit 0", x.fit(1, 0, 40, 0), 7);
        due("fit 1", x.fit(1, 0, 40, 1), 28);
        due("fit 2", x.fit(1, 0, 40, 2), 35);
        due("fit 3", x.fit(1, 0, 40, 3), -1);
        due("fit -1", x.fit(1, 0, 40, -1), -1);
        due("fits inside", x.fits(1, 7, 28), 2);
        due("sure", x.sure(1, 0, 40, 0), 3);
        due("some", x.sure(1, 0, 40, 1), 3);
        fill(2, 0);
        due("fits without a row's number", x.fits(2, 0, 6), 7);
        due("sure of all days", x.sure(2, 0, 6, 0), 0);
        due("some of all days", x.sure(2, 0, 6, 1), 3);
        due("sure of day 4", x.sure(2, 4, 4, 0), 1);
        fill(3, 0, 1, 0, -1);
        due("ahead fits no year", x.fits(3, 0, 2), 0);
        due("sure of none", x.sure(3, 0, 2, 0), 0);
        due("some of none", x.sure(3, 0, 2, 1), 0);
        due("fit of none", x.fit(3, 0, 2, 0), -1);
        fill(3, 0, 1, 4, 0);
        due("ahead may not", x.fits(3, 0, 4), 4);
        fill(3, 0, 1, 4, 2);
        due("no such answer", x.fits(3, 0, 1999), 0);
        fill(3, 3, 0, 0, 65, 0, 1, 1, 0, 2, 6);
        due("one date", x.fits(3, 0, 1999), 1);
        due("the date", x.fit(3, 0, 1999, 0), 1999);
        fill(3, 3, 0, 0, 4294967296L);
        due("a year too large", x.fits(3, 0, 1999), 0);
        due("twenty sights", x.row(3, 0, 60), 0);
        due("a year of them", x.fits(3, 0, 1999), 31);
        due("another year", x.write(3, 59, 1), 0);
        due("no such day", x.fits(3, 0, 1999), 0);
    }

    private static void seenAll(String what, int slot, int from, int to, int want) {
        due("fits " + what, x.fits(slot, from, to), want);
        due("fit " + what, x.fit(slot, from, to, 0), want);
        due("sure " + what, x.sure(slot, from, to, 0), want);
        due("ask " + what, x.ask(slot, from, to), want);
        due("leaves " + what, x.leaves(slot, from, to), want);
    }

    private static void seenRefused() {
        x = Due.of(WAR, LINES);
        seenAll("of nothing", 0, 0, 5, -6);
        seenAll("of slot 4", 4, 0, 5, -2);
        seenAll("of slot -1", -1, 0, 5, -2);
        seenAll("of no span, nothing", 0, 5, 4, -2);
        fill(0, 3, 0, 0, 0, 0);
        seenAll("not three each", 0, 0, 5, -2);
        long[][] bad = {{2, 0}, {-1, 0}, {0, 5}, {0, -1}, {4294967296L, 0}, {0, 4294967296L}};
        for (long[] sight : bad) {
            fill(0, 3, 0, 3, 0, sight[0], sight[1], 0);
            seenAll("with " + sight[0] + " " + sight[1], 0, 0, 5, -2);
        }
        fill(0, 3, 0, 3, 0);
        seenAll("beyond", 0, 0, 2000, -2);
        seenAll("below", 0, -1, 5, -2);
        due("sure what 2", x.sure(0, 0, 5, 2), -2);
        due("sure what -1", x.sure(0, 0, 5, -1), -2);
        x.war();
        seenAll("without a war", 0, 0, 5, -2);
        seenAll("of nothing without a war", 1, 0, 5, -2);
    }

    private static void asked() {
        x = Due.of(WAR, LINES);
        fill(0, 0);
        // of days 0 .. 6 each weekday of land 0 leaves one
        due("ask a week", x.ask(0, 0, 6), 3);
        due("leaves of a week", x.leaves(0, 0, 6), 1);
        // of days 0 .. 3 the weekday of land 0 leaves one again, though land 1 is ahead on three
        due("ask three", x.ask(0, 0, 3), 3);
        due("ask one", x.ask(0, 5, 5), -1);
        due("leaves of one", x.leaves(0, 5, 5), 1);
        // days 7, 14, 21, 28, 35: months of land 0: 0 1 1 1 0; of land 1 weekdays 4 1 3 0 2
        fill(0, 0, 0, 3, 0);
        due("ask the other's weekday", x.ask(0, 7, 35), 13);
        due("leaves by the other's weekday", x.leaves(0, 7, 35), 1);
        // days 0, 7: month 0 both, weekday 0 both, may both; land 1 is ahead on 0: its month tells
        due("ask whether it is ahead", x.ask(0, 0, 7), 11);
        due("leaves then", x.leaves(0, 0, 7), 1);
        // days 3 and 8 of land 1, both weekday 0 and in month 0: it may on 3 alone; of land 0 weekdays 3 and 1
        fill(0, 0, 1, 3, 0, 1, 0, 0);
        due("ask land 0 first", x.ask(0, 3, 8), 3);
        fill(0, 0, 0, 4, 7);
        due("ask of none", x.ask(0, 0, 9), -1);
        due("leaves of none", x.leaves(0, 0, 9), 0);
        // a week of its own length and one month: the weekday splits no better than the month, which is asked
        x = Due.of("war rain 0;land from 0 week 2 rests 1 year 3 3;", 2);
        fill(0, 0);
        due("the least number of several", x.ask(0, 2, 3), 1);
        due("may alone tells no more than the weekday", x.ask(0, 0, 1), 3);
        x = Due.of("war rain 0;land from 0 week 2 rests 0 year 2;feast 0 0 0 for 1;truce 0 from 2 to 2;truce 0 from 3 to 3;", 5);
        fill(0, 0, 0, 3, 1);
        due("ask whether it may", x.ask(0, 0, 3), 4);
        due("leaves so", x.leaves(0, 0, 3), 1);
    }

    private static void truces() {
        x = Due.of(WAR, LINES);
        due("holds 39", x.holds(39), 0);
        due("holds 40", x.holds(40), 1);
        due("holds 44", x.holds(44), 2);
        due("holds 45", x.holds(45), 3);
        due("holds 46", x.holds(46), 1);
        due("holds 60", x.holds(60), 1);
        due("holds 61", x.holds(61), 0);
        due("holds 2000", x.holds(2000), -2);
        due("overlap 3", x.overlap(3, 0), 45);
        due("overlap 2", x.overlap(2, 0), 44);
        due("overlap 1", x.overlap(1, 0), 40);
        due("overlap 1 on a day", x.overlap(1, 50), 50);
        due("overlap 3 behind", x.overlap(3, 46), -1);
        due("overlap 4", x.overlap(4, 0), -1);
        due("overlap many", x.overlap(Integer.MAX_VALUE, 0), -1);
        due("overlap 0", x.overlap(0, 0), -2);
        due("overlap day", x.overlap(1, 2000), -2);
        due("most", x.most(), 3);
        x = Due.of("war rain 0;", 1);
        due("most of none", x.most(), 0);
        due("holds of none", x.holds(0), 0);
        due("overlap of none", x.overlap(1, 0), -1);
        x.war();
        due("most of no war", x.most(), -2);
        due("holds of no war", x.holds(0), -2);
        due("overlap of no war", x.overlap(1, 0), -2);
    }

    private static void ages() {
        x = Due.of(WAR, LINES);
        due("age 36", x.age(0, 5, 36), 1);
        due("age 35", x.age(0, 5, 35), 0);
        due("age by the other", x.age(1, 5, 36), 2);
        due("age on the day", x.age(0, 5, 5), 0);
        due("born later", x.age(0, 5, 4), -1);
        due("born ahead", x.age(1, 2, 9), -1);
        // born on a leap day (year 0, month 1, day 20): one year less until the next leap day
        due("born on a leap day, year 1", x.age(0, 30, 60), 0);
        due("born on a leap day, day ahead", x.age(0, 30, 90), 1);
        due("born on a leap day, again", x.age(0, 30, 91), 2);
        due("age land", x.age(2, 5, 36), -2);
        due("age born", x.age(0, -1, 36), -2);
        due("age day", x.age(0, 5, 2000), -2);
        due("gains", x.gains(1, 0, 5, 36), 1);
        due("loses", x.gains(0, 1, 5, 36), -1);
        due("gains ahead", x.gains(0, 1, 2, 36), -1000);
        due("gains later", x.gains(0, 1, 5, 4), -1000);
        due("gains twice", x.gains(0, 0, 2, 36), -2000);
        due("gains land", x.gains(0, 2, 2, 36), -2000);
        due("gains day", x.gains(0, 1, 2, 2000), -2000);
        due("gains born", x.gains(0, 1, -1, 3), -2000);
    }

    private static void marches() {
        x = Due.of(WAR, LINES);
        due("march 4", x.march(0, 0, 4), 4);
        due("march 5", x.march(0, 0, 5), 7);
        due("march on the day", x.march(0, 3, 1), 3);
        due("march ahead", x.march(1, 0, 1), 3);
        due("march 0", x.march(0, 0, 0), -2);
        due("march none", x.march(0, 0, 100000), -1);
        due("march day", x.march(0, 2000, 1), -2);
        due("march land", x.march(2, 0, 1), -2);
        due("clash 6", x.clash(0, 1, 0, 6), 5);
        due("place 0 of 6", x.place(0, 1, 0, 6), 4);
        due("place 1 of 6", x.place(1, 0, 0, 6), 2);
        due("clash 4", x.clash(0, 1, 0, 4), 3);
        due("place 0 of 4", x.place(0, 1, 0, 4), 3);
        due("place 1 of 4", x.place(1, 0, 0, 4), 1);
        due("clash 3", x.clash(1, 0, 0, 3), 3);
        due("place 0 of 3", x.place(0, 1, 0, 3), 3);
        due("place 1 of 3", x.place(1, 0, 0, 3), 0);
        due("clash none", x.clash(0, 1, 0, Integer.MAX_VALUE), -1);
        due("place none", x.place(0, 1, 0, Integer.MAX_VALUE), -1);
        due("clash 0", x.clash(0, 1, 0, 0), -2);
        due("place 0", x.place(0, 1, 0, 0), -2);
        due("clash twice", x.clash(1, 1, 0, 1), -2);
        due("place twice", x.place(1, 1, 0, 1), -2);
        due("clash day", x.clash(0, 1, 2000, 1), -2);
        due("alone 0", x.alone(0, 1, 0, 12), 5);
        due("alone 1", x.alone(1, 0, 0, 12), 3);
        due("alone twice", x.alone(1, 1, 0, 12), -2);
        due("alone no span", x.alone(0, 1, 1, 0), -2);
        due("begin 3", x.begin(0, 1, 0, 12, 3), 0);
        due("begins 3", x.begins(0, 1, 0, 12, 3), 2);
        due("begins 5", x.begins(0, 1, 0, 12, 5), 3);
        due("begin 3 behind", x.begin(0, 1, 1, 12, 3), 7);
        due("begins beyond the span", x.begins(0, 1, 7, 7, 3), 2);
        due("begin to the last", x.begin(0, 1, 1998, 1999, 200), 1998);
        due("begins to the last", x.begins(0, 1, 1998, 1999, 200), 1);
        due("begin with the last day", x.begin(0, 1, 1997, 1998, 2), 1998);
        due("begins with the last day", x.begins(0, 1, 1997, 1998, 2), 1);
        due("begin of none", x.begin(0, 1, 5, 6, 1), 5);
        due("begins of none", x.begins(0, 1, 5, 6, 1), 0);
        due("begin 0", x.begin(0, 1, 0, 12, 0), -2);
        due("begins 201", x.begins(0, 1, 0, 12, 201), -2);
        due("begin twice", x.begin(1, 1, 0, 12, 1), -2);
        due("begins no span", x.begins(0, 1, 2, 1, 1), -2);
    }

    private static void game(int land, int other, int day, int n, int winner, int take) {
        String call = " " + land + " " + other + " " + day + " " + n;
        due("game" + call, x.game(land, other, day, n), winner);
        due("takes" + call, x.takes(land, other, day, n), take);
    }

    private static void games() {
        x = Due.of(WAR, LINES);
        // from day 5 on the turns are of 1, 1, 0, 1, 0, 0, 0, 1, ..
        game(0, 1, 5, 1, 1, 1);
        game(0, 1, 5, 2, 1, 1);
        game(0, 1, 5, 3, 1, 1);
        game(0, 1, 5, 4, 1, 2);
        game(0, 1, 5, 5, 1, 1);
        game(1, 0, 5, 6, 1, 1);
        game(1, 0, 5, 7, 1, 2);
        game(0, 1, 5, 8, 0, 1);
        // day 1999 is land 0's alone
        game(0, 1, 1999, 1, 0, 1);
        game(0, 1, 1999, 2, 0, 2);
        game(0, 1, 1999, 3, -1, 1);
        // day 1998 is of both: with three stones land 0 takes one, land 1 the two that are left
        game(0, 1, 1998, 3, 1, 1);
        // with four it takes one, to keep land 1 from winning: three, then one, are left
        game(0, 1, 1998, 4, 0, 1);
        game(0, 1, 5, 0, -2, -2);
        game(0, 1, 5, 41, -2, -2);
        game(0, 0, 5, 1, -2, -2);
        game(0, 2, 5, 1, -2, -2);
        game(0, 1, 2000, 1, -2, -2);
        x = Due.of("war rain 0;land from 0 week 2 rests 0 year 9;land from 0 week 2 rests 0 year 9;"
            + "truce 0 from 1990 to 1999;truce 1 from 1991 to 1999;", 5);
        game(0, 1, 1991, 1, -1, 0);
        game(0, 1, 1990, 1, 1, 1);
        game(0, 1, 1990, 2, 1, 2);
        game(0, 1, 1990, 3, -1, 1);
        // on 1989 both, then land 1 alone: with three left it wins by one and two, with four nobody by one and one
        game(0, 1, 1989, 3, 1, 1);
        game(0, 1, 1989, 40, -1, 1);
        // land 1 wins with six by two, two behind land 0's two; by land 0's one nobody does
        game(0, 1, 1989, 6, -1, 1);
        game(0, 1, 1989, 5, 1, 1);
    }

    private static void changes() {
        x = Due.of(WAR, LINES);
        due("found", x.found(0, 1, 0, 3), 2);
        due("why of a founded feast", x.why(0, 10), 3);
        due("why of its second day", x.why(0, 11), 3);
        due("a rest goes ahead of it", x.why(0, 12), 2);
        due("ends", x.ends(0), 2);
        due("may again", x.may(0, 10), 1);
        due("ends the first", x.ends(0), 0);
        due("one is left", x.count(1), 1);
        due("it moved down", x.feast(0, 0), 1);
        due("its parts too", x.feast(0, 3), 2);
        due("none to end", x.ends(0), -5);
        due("may on the feast", x.may(0, 2), 1);
        due("changes", x.count(6), 3);
        due("undo the end", x.undo(), 2);
        due("the first is back", x.feast(0, 0), 0);
        due("the other moved up", x.feast(1, 0), 1);
        due("may not on the feast", x.may(0, 2), 0);
        due("undo the other end", x.undo(), 1);
        due("three feasts", x.count(1), 3);
        due("the third one's month", x.feast(2, 1), 1);
        due("why once more", x.why(0, 10), 3);
        due("undo the founding", x.undo(), 0);
        due("two feasts", x.count(1), 2);
        due("may once more", x.may(0, 10), 1);
        due("nothing to undo", x.undo(), -5);
        due("grant", x.grant(1, 5, 5), 3);
        due("may not in it", x.why(1, 5), 4);
        due("may behind it", x.why(1, 6), 0);
        due("its land", x.truce(3, 0), 1);
        due("lines stay", x.count(4), LINES);
        due("undo the grant", x.undo(), 0);
        due("may in it", x.why(1, 5), 0);
        due("three truces", x.count(2), 3);
        due("change, and a new war", x.grant(1, 5, 5), 3);
        Due.feed(x, WAR);
        due("war", x.war(), LINES);
        due("no changes", x.count(6), 0);
        due("no undo", x.undo(), -5);
    }

    private static void changesRefused() {
        x = Due.of(WAR, LINES);
        due("found day", x.found(0, 0, 10, 1), -2);
        due("found leap day", x.found(0, 1, 20, 1), -2);
        due("found day below", x.found(0, 0, -1, 1), -2);
        due("found month", x.found(0, 2, 0, 1), -2);
        due("found land", x.found(2, 0, 0, 1), -2);
        due("found 0", x.found(0, 0, 9, 0), -2);
        due("found 10", x.found(0, 0, 9, 10), -2);
        due("grant no span", x.grant(1, 5, 4), -2);
        due("grant beyond", x.grant(1, 5, 2000), -2);
        due("grant land", x.grant(2, 5, 6), -2);
        due("ends land", x.ends(2), -2);
        for (int i = 2; i < 12; i++) {
            due("found " + i, x.found(0, 0, 9, 9), i);
        }
        due("found a thirteenth", x.found(0, 0, 9, 9), -3);
        due("found a thirteenth of none", x.found(0, 0, 10, 9), -2);
        for (int i = 3; i < 12; i++) {
            due("grant " + i, x.grant(1, 1999, 1999), i);
        }
        due("grant a thirteenth", x.grant(1, 0, 0), -3);
        due("grant a thirteenth of none", x.grant(1, 1, 0), -2);
        due("changes", x.count(6), 19);
        for (int i = 19; i < 60; i += 2) {
            due("ends at " + i, x.ends(0), 11);
            due("changes at " + i, x.count(6), i + 1);
            if (i < 59) {
                due("found at " + i, x.found(0, 0, 9, 9), 11);
            }
        }
        due("sixty", x.count(6), 60);
        due("found beyond sixty", x.found(0, 0, 9, 9), -3);
        due("ends beyond sixty", x.ends(0), -3);
        due("ends of none beyond sixty", x.ends(2), -2);
        due("undo of sixty", x.undo(), 59);
        due("feasts", x.count(1), 12);
        due("ends again", x.ends(1), 1);
        due("none to end goes ahead of sixty", x.ends(1), -5);
        due("grant beyond sixty", x.grant(1, 0, 0), -3);
        for (int i = 59; i >= 0; i--) {
            due("undo to " + i, x.undo(), i);
        }
        due("two feasts", x.count(1), 2);
        due("three truces", x.count(2), 3);
        due("feast 1 days", x.feast(1, 3), 2);
        for (int i = 0; i < 30; i++) {
            due("found " + i, x.found(1, 0, 0, 1), 2);
            due("ends " + i, x.ends(1), 2);
        }
        due("room for a truce, but sixty changes", x.grant(1, 0, 0), -3);
        due("no span is told ahead of sixty", x.grant(1, 1, 0), -2);
        due("room for a feast, but sixty changes", x.found(1, 0, 0, 1), -3);
        due("sixty still", x.count(6), 60);
        due("three truces still", x.count(2), 3);
        x = Due.of("war rain 0;", 1);
        due("undo with no change", x.undo(), -5);
        x.war();
        due("undo with no war", x.undo(), -2);
    }

    private static void rain() {
        x = Due.of(WAR, LINES);
        long state = 7;
        int wet = 0;
        int dry = 0;
        int[] both = {3, 7, 10, 11};
        for (int day = 0; day < 12; day++) {
            state = (state * 1103515245L + 12345L) & 0x7fffffffL;
            boolean rains = (state >> 16) % 100 < 30;
            wet += rains ? 1 : 0;
            for (int d : both) {
                dry += d == day && !rains ? 1 : 0;
            }
        }
        due("wet days", x.drawn(7, 0, 12, 0), wet);
        due("dry days", x.drawn(7, 0, 12, 1), dry);
        // seed 0: 12345, then 1406932606, 654583775, 1449466924: draws 0, 68, 88, 17
        due("first draw of seed 0", x.drawn(0, 0, 1, 0), 1);
        due("two draws of seed 0", x.drawn(0, 0, 2, 0), 1);
        due("four draws of seed 0", x.drawn(0, 0, 4, 0), 2);
        due("only one day is left", x.drawn(0, 1999, 100, 0), 1);
        due("three days are left", x.drawn(0, 1997, 100, 0), 1);
        due("four days are left", x.drawn(0, 1996, 100, 0), 2);
        // seed 0 from day 0: rain on 0 and 3; land 0 may on 0, 1, 3
        due("luck by rain", x.luck(0, 1, 0, 0, 1), 1);
        due("no luck", x.luck(0, 1, 0, 0, 2), 0);
        due("luck ahead of the count", x.luck(0, 20, 1, 0, 3), 20);
        due("luck from the rest", x.luck(5, 20, 0, 5, 2), 20);
        due("a seed in all", x.luck(2000000000, 20, 1, 0, 1), 20);
        due("seed below", x.drawn(-1, 0, 1, 0), -2);
        due("seed above", x.drawn(2000000001, 0, 1, 0), -2);
        due("drawn day", x.drawn(0, 2000, 1, 0), -2);
        due("drawn 0", x.drawn(0, 0, 0, 0), -2);
        due("drawn 101", x.drawn(0, 0, 101, 0), -2);
        due("drawn what", x.drawn(0, 0, 1, 2), -2);
        due("drawn what below", x.drawn(0, 0, 1, -1), -2);
        due("luck seed", x.luck(-1, 1, 0, 0, 1), -2);
        due("luck 0", x.luck(0, 0, 0, 0, 1), -2);
        due("luck 21", x.luck(0, 21, 0, 0, 1), -2);
        due("luck land", x.luck(0, 1, 2, 0, 1), -2);
        due("luck day", x.luck(0, 1, 0, -1, 1), -2);
        due("luck n", x.luck(0, 1, 0, 0, 101), -2);
        x = Due.of("war rain 100;", 1);
        due("rain always", x.drawn(2000000000, 0, 100, 0), 100);
        due("never dry", x.drawn(2000000000, 0, 100, 1), 0);
        Due.feed(x, "war rain 0;");
        due("war", x.war(), 1);
        due("rain never", x.drawn(2000000000, 0, 100, 0), 0);
        due("all of no lands may", x.drawn(2000000000, 1950, 100, 1), 50);
        x.war();
        due("drawn of no war", x.drawn(0, 0, 1, 0), -2);
    }

    private static void counts() {
        x = Due.of(WAR, LINES);
        int[] want = {2, 2, 3, 30, LINES, 0, 0, 0};
        for (int what = 0; what < want.length; what++) {
            due("count " + what, x.count(what), want[what]);
        }
        due("count 8", x.count(8), -1);
        due("count -1", x.count(-1), -1);
        x.feed(0, 0, 0, 0, 0);
        x.grant(0, 0, 0);
        x.row(3, 0, 0);
        x.row(1, 0, 9);
        x.row(1, 1, 9);
        due("bytes", x.count(5), 20);
        due("changes", x.count(6), 1);
        due("rows", x.count(7), 2);
    }

    private static void images() {
        x = Due.of(WAR, LINES);
        due("image 3", x.image(3), -2);
        due("image -1", x.image(-1), -2);
        due("back 3", x.back(3), -2);
        due("back -1", x.back(-1), -2);
        due("back of nothing", x.back(2), -6);
        x.found(0, 1, 0, 3);
        due("image 2", x.image(2), 0);
        x.undo();
        x.ends(1);
        x.grant(1, 5, 5);
        due("two changes", x.count(6), 2);
        x.war();
        due("image of no war", x.image(0), 0);
        x.row(0, 0, 3);
        x.feed(1, 2, 3, 4, 5);
        due("back 2", x.back(2), 0);
        due("bytes stay", x.count(5), 20);
        due("rows stay", x.count(7), 1);
        due("lines", x.count(4), LINES);
        due("one change", x.count(6), 1);
        due("three feasts", x.count(1), 3);
        due("three truces", x.count(2), 3);
        due("why", x.why(0, 10), 3);
        due("its date", x.date(0, 31, 0), 1);
        due("undo of an image", x.undo(), 0);
        due("may", x.why(0, 10), 0);
        due("back once more", x.back(2), 0);
        due("the image has its own", x.why(0, 10), 3);
        due("and its change", x.count(6), 1);
        due("back to no war", x.back(0), 0);
        due("no war", x.who(0), -2);
        due("no lines", x.count(4), 0);
        due("image in place of another", x.image(2), 0);
        due("back to it", x.back(2), 0);
        due("no war in it", x.undo(), -2);
    }

    private static void rows() {
        x = Due.of(WAR, LINES);
        due("row slot 4", x.row(4, 0, 1), -2);
        due("row slot -1", x.row(-1, 0, 1), -2);
        due("row width 4", x.row(0, 4, 1), -2);
        due("row width -1", x.row(0, -1, 1), -2);
        due("row 61", x.row(0, 0, 61), -2);
        due("row -1", x.row(0, 0, -1), -3);
        due("row -1 of no slot", x.row(4, 0, -1), -2);
        due("no rows", x.count(7), 0);
        due("write to nothing", x.write(0, 0, 1), -6);
        due("write to no slot", x.write(4, 0, 1), -2);
        due("row 60", x.row(0, 0, 60), 0);
        due("write 59", x.write(0, 59, 1), 0);
        due("write 60", x.write(0, 60, 1), -7);
        due("write -1", x.write(0, -1, 1), -7);
        // cut to one byte, 257 is 1 and 511 is below 0; a row in place of another is all 0
        fill(0, 0, 257, 259, 256);
        due("cut to land 1, weekday 0", x.fit(0, 0, 1999, 0), 3);
        fill(0, 1, 65537, 65539, 65536);
        due("cut to two bytes", x.fit(0, 0, 1999, 0), 3);
        fill(0, 2, 4294967297L, 4294967299L, 4294967296L);
        due("cut to four bytes", x.fit(0, 0, 1999, 0), 3);
        fill(0, 3, 4294967297L, 3, 0);
        due("not cut", x.fits(0, 0, 1999), -2);
        fill(0, 0, 511, 3, 0);
        due("below 0", x.fits(0, 0, 1999), -2);
        due("row stays", x.row(0, 0, -5), -3);
        due("it has three still", x.write(0, 2, 0), 0);
        due("row anew", x.row(0, 0, 3), 0);
        due("all 0", x.fit(0, 0, 1999, 30), 30);
        pastes();
    }

    private static void pastes() {
        fill(0, 0, 1, 3, 0, 0, 0, 0);
        fill(1, 0, 9, 9, 9, 9);
        due("paste", x.paste(0, 0, 1, 1, 3), 0);
        due("paste down", x.paste(1, 1, 1, 0, 3), 0);
        due("row of three", x.row(2, 0, 3), 0);
        due("paste on", x.paste(1, 0, 2, 0, 3), 0);
        due("it was put", x.fit(2, 0, 1999, 0), 3);
        due("paste over itself", x.paste(0, 0, 0, 3, 3), 0);
        due("paste overlapping", x.paste(0, 0, 0, 1, 5), 0);
        due("as they were", x.paste(0, 1, 2, 0, 3), 0);
        due("the same again", x.fit(2, 0, 1999, 0), 3);
        // the row is 1 1 3 0 1 3 now: from the fourth on land 0 in its month 3, which it has not
        due("the second as it was", x.paste(0, 3, 2, 0, 3), 0);
        due("a month that is none", x.fits(2, 0, 1999), 0);
        due("the first stays", x.paste(0, 0, 2, 0, 3), 0);
        due("land 1 has no month 3", x.fits(2, 0, 1999), 0);
        due("put back", x.paste(0, 1, 2, 0, 3), 0);
        due("land 1 on weekday 0", x.fit(2, 0, 1999, 1), 8);
        due("paste slot", x.paste(4, 0, 0, 0, 1), -2);
        due("paste to", x.paste(0, 0, 4, 0, 1), -2);
        due("paste nothing", x.paste(0, 0, 3, 0, 1), -6);
        due("paste of nothing", x.paste(3, 0, 0, 0, 1), -6);
        due("another width", x.row(3, 1, 6), 0);
        due("paste widths", x.paste(0, 0, 3, 0, 1), -8);
        due("paste widths ahead of places", x.paste(0, 99, 3, 0, 1), -8);
        due("paste beyond", x.paste(0, 4, 1, 0, 3), -7);
        due("paste beyond the other", x.paste(0, 0, 1, 2, 3), -7);
        due("paste below", x.paste(0, -1, 1, 0, 1), -7);
        due("paste to below", x.paste(0, 0, 1, -1, 1), -7);
        due("paste n below", x.paste(0, 0, 1, 0, -1), -7);
        due("paste far", x.paste(0, Integer.MAX_VALUE, 1, 0, Integer.MAX_VALUE), -7);
        due("paste none at the end", x.paste(0, 6, 1, 4, 0), 0);
        due("paste all", x.paste(0, 2, 1, 0, 4), 0);
    }
}
