/** The bounds of a text: Term I, and the promises 1 to 5. */
final class TextBounds {
    private static final String HEAD = "war rain 5;";
    private static final String LAND = "land from 0 week 2 rests 0 year 1;";
    private static final String FULL = "war rain 5 ; land from 0 week 7 rests 0 year 10 20 leap 2 in 1 adds 1 ; "
        + "feast 0 0 0 for 1 ; truce 0 from 5 to 6 ;";

    private static TwoCalendars x = new TwoCalendars();

    private TextBounds() {
    }

    static void run() {
        linesAndTheirOrder();
        rain();
        from();
        week();
        rests();
        months();
        leap();
        feasts();
        truces();
        numbered();
        tokens();
        bytesBetween();
        bytesBeside();
        firstFault();
        leastFault();
        firstKind();
        firstKindAtEachToken();
        secondKind();
        thirdKind();
        newObject();
        fedBytes();
        tapeIsFull();
        cut();
        cutRefused();
        warRead();
        warsByTurns();
        noWarThen();
        warRefused();
        faultTold();
        faultOfNone();
    }

    private static void due(String call, long got, long want) {
        Due.is(call, got, want);
    }

    // ---- what the tests below share ----

    private static void reads(String text, int lines) {
        x = new TwoCalendars();
        Due.feed(x, text);
        due("war() of " + text, x.war(), lines);
        due("kind of " + text, x.fault(0), 0);
        due("place of " + text, x.fault(1), -1);
        due("tape of " + text, x.count(5), 0);
        due("lines of " + text, x.count(4), lines);
    }

    /** A text with a FAULT where the sign ^ stands, which is no part of it. */
    private static void faulty(int kind, String marked) {
        int place = marked.indexOf('^');
        String text = marked.substring(0, place) + marked.substring(place + 1);
        x = new TwoCalendars();
        Due.feed(x, text);
        due("war() of " + marked, x.war(), -4);
        due("kind of " + marked, x.fault(0), kind);
        due("place of " + marked, x.fault(1), place);
        due("tape of " + marked, x.count(5), text.length());
        due("lines of " + marked, x.count(4), 0);
    }

    /** A number stands between two texts: both bounds are read, one below and one above are FAULTS at it. */
    private static void bounds(String before, int least, int greatest, String after, int lines) {
        if (least > 0) {
            faulty(2, before + "^" + (least - 1) + after);
        } else {
            faulty(1, before + "^-1" + after);
        }
        faulty(2, before + "^" + (greatest + 1) + after);
        faulty(2, before + "^" + (greatest + 4294967296L) + after);
        faulty(2, before + "^99999999999999999999" + after);
        reads(before + least + after, lines);
        reads(before + "000000000000" + greatest + after, lines);
    }

    private static String lands(int n) {
        return LAND.repeat(n);
    }

    // ---- Term I ----

    private static void linesAndTheirOrder() {
        Sentences.ofTerm("I", "WAR: {LINE ;}.");
        reads("", 0);
        reads(" ", 0);
        reads(HEAD, 1);
        reads(HEAD + LAND, 2);
        faulty(1, "^;");
        faulty(1, "war rain 5^");
        faulty(1, HEAD + "^;");
        faulty(1, "war rain 5 ^" + LAND);
        Sentences.ofTerm("I", "war is the first LINE and no other");
        faulty(1, "^" + LAND);
        faulty(1, HEAD + "^war rain 5;");
        faulty(1, HEAD + LAND + "^war rain 5;");
        reads(HEAD + LAND, 2);
    }

    private static void rain() {
        Sentences.ofTerm("I", "rain 0 .. 100");
        bounds("war rain ", 0, 100, ";", 1);
        due("the rain that was read", x.count(3), 100);
        reads("war rain 0;", 1);
        due("no rain", x.count(3), 0);
    }

    private static void from() {
        Sentences.ofTerm("I", "from 0 .. 999");
        bounds(HEAD + "land from ", 0, 999, " week 2 rests 0 year 1;", 2);
        due("from that was read", x.land(0, 0), 999);
    }

    private static void week() {
        Sentences.ofTerm("I", "week 2 .. 10");
        bounds(HEAD + "land from 0 week ", 2, 10, " rests 0 year 1;", 2);
        due("week that was read", x.land(0, 1), 10);
    }

    private static void rests() {
        Sentences.ofTerm("I", "rests 0 .. 1,022 (weekdays below week, as bits; one at least is none)");
        for (int week = 2; week <= 10; week++) {
            int all = (1 << week) - 1;
            String before = HEAD + "land from 0 week " + week + " rests ";
            bounds(before, 0, all - 1, " year 1;", 2);
            due("rests of week " + week, x.land(0, 2), all - 1);
            faulty(2, before + "^" + (all + 1) + " year 1;");
            reads(before + (all - (1 << week - 1)) + " year 1;", 2);
            due("the last weekday alone is none", x.land(0, 2), all >> 1);
        }
        faulty(2, HEAD + "land from 0 week 10 rests ^1023 year 1;");
        faulty(2, HEAD + "land from 0 week 9 rests ^1022 year 1;");
    }

    private static void months() {
        Sentences.ofTerm("I", "year: one to eight MONTHS of 1 .. 60 days each");
        String before = HEAD + "land from 0 week 2 rests 0 year";
        faulty(1, before + "^;");
        faulty(1, before + " ^leap 2 in 0 adds 1;");
        bounds(before + " ", 1, 60, ";", 2);
        due("one MONTH", x.land(0, 3), 1);
        due("its days", x.month(0, 0, 0), 60);
        String seven = before + " 1 2 3 4 5 6 7";
        bounds(seven + " ", 1, 60, ";", 2);
        due("eight MONTHS", x.land(0, 3), 8);
        due("the eighth one's days", x.month(0, 7, 0), 60);
        reads(seven + ";", 2);
        due("seven MONTHS", x.land(0, 3), 7);
        faulty(3, seven + " 8 ^9;");
        bounds(before + " 1 ", 1, 60, " 3;", 2);
        due("three MONTHS", x.land(0, 3), 3);
    }

    private static void leap() {
        Sentences.ofTerm("I", "leap 2 .. 9, M one of its MONTHS, adds 1 .. 9");
        String one = HEAD + "land from 0 week 2 rests 0 year 5 leap ";
        bounds(one, 2, 9, " in 0 adds 1;", 2);
        due("leap that was read", x.land(0, 4), 9);
        bounds(one + "2 in ", 0, 0, " adds 1;", 2);
        due("the only MONTH is longer", x.land(0, 5), 0);
        String eight = HEAD + "land from 0 week 2 rests 0 year 1 2 3 4 5 6 7 8 leap 2 in ";
        bounds(eight, 0, 7, " adds 1;", 2);
        due("the eighth MONTH is longer", x.land(0, 5), 7);
        bounds(one + "2 in 0 adds ", 1, 9, ";", 2);
        due("adds that was read", x.land(0, 6), 9);
        reads(HEAD + LAND, 2);
        due("without leap", x.land(0, 4), 0);
    }

    private static void feasts() {
        Sentences.ofTerm("I", "feast: of a LAND told ahead, M one of its MONTHS, D below its length (without leap), for 1 .. 9 days");
        faulty(2, HEAD + "feast ^0 0 0 for 1;" + LAND);
        bounds(HEAD + LAND + "feast ", 0, 0, " 0 0 for 1;", 3);
        bounds(HEAD + lands(3) + "feast ", 0, 2, " 0 0 for 1;", 5);
        due("the third LAND's", x.feast(0, 0), 2);
        faulty(2, HEAD + LAND + "feast ^1 0 0 for 1;" + LAND);
        reads(HEAD + LAND + LAND + "feast 1 0 0 for 1;" + LAND, 5);
        String longer = HEAD + "land from 0 week 2 rests 0 year 10 20 leap 2 in 1 adds 9;" + LAND;
        bounds(longer + "feast 0 ", 0, 1, " 0 for 1;", 4);
        bounds(longer + "feast 1 ", 0, 0, " 0 for 1;", 4);
        bounds(longer + "feast 0 0 ", 0, 9, " for 1;", 4);
        bounds(longer + "feast 0 1 ", 0, 19, " for 1;", 4);
        due("the last day without leap", x.feast(0, 2), 19);
        bounds(longer + "feast 0 1 19 for ", 1, 9, ";", 4);
        due("nine days", x.feast(0, 3), 9);
    }

    private static void truces() {
        Sentences.ofTerm("I", "truce: of a LAND told ahead, N 0 .. 1999, to no earlier than from");
        faulty(2, HEAD + "truce ^0 from 0 to 0;" + LAND);
        bounds(HEAD + LAND + "truce ", 0, 0, " from 0 to 0;", 3);
        bounds(HEAD + lands(3) + "truce ", 0, 2, " from 0 to 0;", 5);
        faulty(2, HEAD + LAND + "truce ^1 from 0 to 0;" + LAND);
        bounds(HEAD + LAND + "truce 0 from ", 0, 1999, " to 1999;", 3);
        due("the last DAY alone", x.truce(0, 1), 1999);
        bounds(HEAD + LAND + "truce 0 from 0 to ", 0, 1999, ";", 3);
        due("all DAYS", x.truce(0, 2), 1999);
        bounds(HEAD + LAND + "truce 0 from 700 to ", 700, 1999, ";", 3);
        bounds(HEAD + LAND + "truce 0 from 1999 to ", 1999, 1999, ";", 3);
    }

    private static void numbered() {
        Sentences.ofTerm("I", "LANDS 0 .. 2, FEASTS 0 .. 11, TRUCES 0 .. 11 are numbered as they stand");
        StringBuilder text = new StringBuilder(HEAD);
        for (int i = 0; i < 3; i++) {
            text.append("land from ").append(i + 1).append(" week 9 rests 0 year 60;");
        }
        for (int i = 0; i < 12; i++) {
            text.append("feast ").append(i % 3).append(" 0 ").append(i + 20).append(" for 1;");
            text.append("truce ").append(i % 3).append(" from 0 to ").append(i + 30).append(';');
        }
        reads(text.toString(), 28);
        for (int i = 0; i < 3; i++) {
            due("from of LAND " + i, x.land(i, 0), i + 1);
        }
        for (int i = 0; i < 12; i++) {
            due("LAND of FEAST " + i, x.feast(i, 0), i % 3);
            due("day of FEAST " + i, x.feast(i, 2), i + 20);
            due("LAND of TRUCE " + i, x.truce(i, 0), i % 3);
            due("to of TRUCE " + i, x.truce(i, 2), i + 30);
        }
        due("LAND 3", x.land(3, 0), -2);
        due("FEAST 12", x.feast(12, 0), -2);
        due("TRUCE 12", x.truce(12, 0), -2);
    }

    private static void tokens() {
        Sentences.ofTerm("I", "TOKENS, blanks (32, 10) aside, the longest: words (a .. z), numbers (digits), the sign ; .");
        reads("\n  war\n\nrain5\n;  ", 1);
        reads("war rain 10;", 1);
        due("the longest number", x.count(3), 10);
        faulty(1, "war rain 1 ^0;");
        faulty(1, "war ^ra");
        faulty(1, "war ^ra in 5;");
        faulty(1, "war ^rainy 5;");
        faulty(1, "^warrain 5;");
        reads(HEAD + "land from0week2rests0year1 2;", 2);
        due("two MONTHS", x.land(0, 3), 2);
        reads(HEAD + "land from0week2rests0year12;", 2);
        due("one MONTH", x.land(0, 3), 1);
    }

    /** Each byte between two words shows whether it is a blank, a letter or another one. */
    private static void bytesBetween() {
        Sentences.ofTerm("I", "blanks (32, 10) aside");
        for (int b = 0; b < 256; b++) {
            char sign = (char) b;
            if (b == 32 || b == 10) {
                reads("war" + sign + "rain 5;", 1);
            } else if (b >= 'a' && b <= 'z') {
                faulty(1, "^war" + sign + "rain 5;");
            } else {
                faulty(1, "war^" + sign + "rain 5;");
            }
        }
    }

    /** Each byte between two digits shows whether it is a digit. */
    private static void bytesBeside() {
        Sentences.ofTerm("I", "words (a .. z), numbers (digits), the sign ;");
        for (int b = 0; b < 256; b++) {
            char sign = (char) b;
            if (b == '0') {
                reads("war rain 1" + sign + "0;", 1);
            } else if (b > '0' && b <= '9') {
                faulty(2, "war rain ^1" + sign + "0;");
            } else if (b == ';' || b == 32 || b == 10) {
                faulty(1, "war rain 1" + sign + "^0;");
            } else {
                faulty(1, "war rain 1^" + sign + "0;");
            }
        }
    }

    private static void firstFault() {
        Sentences.ofTerm("I", "FAULTS, the first by its place (a TOKEN's first byte; the end's)");
        faulty(2, "war rain ^101 #");
        faulty(1, "war rain ^# 101;");
        faulty(1, "war rain 5 ^7 rain 101;");
        faulty(2, HEAD + "land from ^1000 week 11 rests 0 year 1;");
        faulty(3, HEAD + lands(3) + "^land from 1000 #");
        faulty(2, HEAD + lands(2) + "land from ^1000 week 2 rests 0 year 1;" + lands(3));
        faulty(1, "  \n  ^rain");
        faulty(1, "war   ^12345;");
        faulty(1, "war^");
        faulty(1, "war \n ^");
    }

    private static void leastFault() {
        Sentences.ofTerm("I", "of one place the least");
        String eight = HEAD + "land from 0 week 2 rests 0 year 1 2 3 4 5 6 7 8 ";
        faulty(2, eight + "^0;");
        faulty(2, eight + "^61;");
        faulty(3, eight + "^1;");
        faulty(3, eight + "^60;");
        faulty(1, "war rain 5 ^101;");
        faulty(1, HEAD + LAND + "^2000;");
    }

    private static void firstKind() {
        Sentences.ofTerm("I", "1 a TOKEN that is none, or can't stand there (war behind the first LINE, another word ahead of it).");
        faulty(1, "^#");
        faulty(1, "^War rain 5;");
        faulty(1, "war rain ^-5;");
        faulty(1, "war rain ^+5;");
        faulty(1, "war rain 5^.;");
        faulty(1, "war rain 5^,000;");
        faulty(1, "^land from 0 week 2 rests 0 year 1;");
        faulty(1, "^feast 0 0 0 for 1;");
        faulty(1, "^truce 0 from 0 to 0;");
        faulty(1, HEAD + "^war rain 5;");
        faulty(1, HEAD + "^peace;");
        faulty(1, "^5;");
        reads(HEAD + "land from 0 week 2 rests 0 year 1;", 2);
    }

    /** Every TOKEN of a text left out, made a wrong one, or the last one. */
    private static void firstKindAtEachToken() {
        Sentences.ofTerm("I", "1 a TOKEN that is none, or can't stand there");
        reads(FULL, 4);
        String[] tokens = FULL.split(" ");
        for (int i = 0; i < tokens.length; i++) {
            String before = "";
            for (int j = 0; j < i; j++) {
                before += tokens[j] + " ";
            }
            String after = FULL.substring(before.length() + tokens[i].length());
            faulty(1, before + "^nothing" + after);
            faulty(1, before + "^#" + after);
            otherWords(before, tokens[i], after);
            boolean isNumber = Character.isDigit(tokens[i].charAt(0));
            // a further number is a MONTH more, and a LINE may end behind a MONTH
            if (!isNumber && !tokens[i].equals("leap")) {
                faulty(1, before + "^7" + after);
            }
            if (!tokens[i].equals(";") && !tokens[i].equals("20") && !tokens[i].equals("leap")) {
                faulty(1, before + "^;" + after);
            }
            if (i == 0 || tokens[i - 1].equals(";")) {
                reads(before, before.length() - before.replace(";", "").length());
            } else {
                faulty(1, before + "^");
                faulty(1, before.trim() + "^");
                faulty(1, before + "\n^");
            }
        }
    }

    /** A word with another first, another last letter, one less, one more. */
    private static void otherWords(String before, String word, String after) {
        if (!Character.isLetter(word.charAt(0))) {
            return;
        }
        int last = word.length() - 1;
        faulty(1, before + "^" + (word.charAt(0) == 'q' ? 'p' : 'q') + word.substring(1) + after);
        faulty(1, before + "^" + word.substring(0, last) + "q" + after);
        faulty(1, before + "^" + word.substring(0, last) + after);
        faulty(1, before + "^" + word.substring(1) + after);
        faulty(1, before + "^" + word + "s" + after);
        faulty(1, before + "^" + word + word + after);
    }

    private static void secondKind() {
        Sentences.ofTerm("I", "2 a number out of its bounds, not as said.");
        faulty(2, "war rain ^101;");
        faulty(2, HEAD + "land from 0 week 3 rests ^7 year 1;");
        faulty(2, HEAD + "land from 0 week 3 rests ^8 year 1;");
        faulty(2, HEAD + LAND + "truce 0 from 5 to ^4;");
        faulty(2, HEAD + LAND + "feast 0 0 ^1 for 1;");
        reads(HEAD + LAND + "truce 0 from 5 to 5;", 3);
    }

    private static void thirdKind() {
        Sentences.ofTerm("I", "3 a 4th land, 13th feast, truce, at its word; a ninth MONTH, at it.");
        String feast = "feast 0 0 0 for 1;";
        String truce = "truce 0 from 0 to 9;";
        reads(HEAD + lands(3), 4);
        faulty(3, HEAD + lands(3) + "^" + LAND);
        faulty(3, HEAD + lands(3) + "^land");
        faulty(3, HEAD + lands(3) + "^land 7 ; #");
        reads(HEAD + LAND + feast.repeat(12), 14);
        faulty(3, HEAD + LAND + feast.repeat(12) + "^" + feast);
        faulty(3, HEAD + LAND + feast.repeat(12) + "^feast#");
        reads(HEAD + LAND + truce.repeat(12), 14);
        faulty(3, HEAD + LAND + truce.repeat(12) + "^" + truce);
        faulty(3, HEAD + LAND + truce.repeat(12) + "^truce");
        reads(HEAD + LAND + feast.repeat(12) + truce.repeat(12) + lands(2), 28);
        reads(HEAD + "land from 0 week 2 rests 0 year 1 2 3 4 5 6 7 8;", 2);
        faulty(3, HEAD + "land from 0 week 2 rests 0 year 1 2 3 4 5 6 7 8 ^9");
        faulty(3, HEAD + "land from 0 week 2 rests 0 year 1 1 1 1 1 1 1 1 ^1 leap 2 in 0 adds 1;");
    }

    // ---- the promises ----

    private static void newObject() {
        Sentences.of(1, "No WAR.");
        x = new TwoCalendars();
        for (int what = 0; what < 8; what++) {
            due("count(" + what + ")", x.count(what), 0);
        }
        due("who(0)", x.who(0), -2);
        due("most()", x.most(), -2);
        due("undo()", x.undo(), -2);
        for (int k = 0; k < 3; k++) {
            due("back(" + k + ")", x.back(k), -6);
        }
        for (int slot = 0; slot < 4; slot++) {
            due("write(" + slot + ")", x.write(slot, 0, 0), -6);
        }
    }

    private static void fedBytes() {
        Sentences.of(2, "Twenty bytes come behind the TAPE, four of each number, the highest first: how many it has");
        x = new TwoCalendars();
        due("first feed", x.feed(0x77617220, 0x7261696e, 0x20352020, 0x20202020, 0x20202031), 20);
        due("behind it", x.feed(0x303b0a20, 0x20202020, 0x20202020, 0x20202020, 0x2020fffe), 40);
        due("the TAPE", x.count(5), 40);
        due("a byte of another kind", x.war(), -4);
        due("a number behind the first one", x.fault(1), 19);
        due("cut ahead of it", x.end(19), 19);
        due("fed on", x.feed(0x3b202020, 0x20202020, 0x20202020, 0x20202020, 0x20202080), 39);
        due("the last byte", x.war(), -4);
        due("its place", x.fault(1), 38);
        due("cut ahead of that", x.end(38), 38);
        due("read", x.war(), 1);
        due("rain", x.count(3), 5);
    }

    private static int blanks() {
        return x.feed(0x20202020, 0x20202020, 0x20202020, 0x20202020, 0x20202020);
    }

    private static int strange() {
        return x.feed(0x23232323, 0x23232323, 0x23232323, 0x23232323, 0x23232323);
    }

    private static void tapeIsFull() {
        Sentences.of(2, "NONE, and none come, if it would have more than 1,200");
        x = new TwoCalendars();
        for (int i = 1; i <= 60; i++) {
            due("feed " + i, blanks(), 20 * i);
        }
        due("1,220 would be too many", strange(), -1);
        due("none came", x.count(5), 1200);
        due("nor can more be kept", x.end(1201), -1);
        due("blanks alone", x.war(), 0);
        for (int i = 1; i <= 60; i++) {
            due("feed " + i + " again", blanks(), 20 * i);
        }
        due("cut", x.end(1181), 1181);
        due("1,201 would be too many", strange(), -1);
        due("none came to 1,181", x.count(5), 1181);
        due("not one byte", x.end(1182), -1);
        due("cut once more", x.end(1180), 1180);
        due("1,200 are not", blanks(), 1200);
        due("blanks alone again", x.war(), 0);
    }

    private static void cut() {
        Sentences.of(3, "The TAPE has its first n bytes alone: n");
        x = new TwoCalendars();
        due("none of none", x.end(0), 0);
        Due.feed(x, "war rain 100;#######");
        due("all of them", x.end(20), 20);
        due("they stay", x.count(5), 20);
        due("all but one", x.end(19), 19);
        due("it is gone", x.end(20), -1);
        due("the first ones", x.end(11), 11);
        due("fed on", x.feed(0x3b202020, 0x20202020, 0x20202020, 0x20202020, 0x20202020), 31);
        due("read", x.war(), 1);
        due("rain", x.count(3), 10);
        blanks();
        due("none", x.end(0), 0);
        due("the TAPE is empty", x.count(5), 0);
        due("no LINES", x.war(), 0);
    }

    private static void cutRefused() {
        Sentences.of(3, "NONE, and nothing happens, if it has not so many, or n is below 0");
        x = new TwoCalendars();
        due("one of none", x.end(1), -1);
        due("below 0 of none", x.end(-1), -1);
        Due.feed(x, "war rain 7;");
        int[] wrong = {12, 13, 20, 1200, Integer.MAX_VALUE, -1, -11, Integer.MIN_VALUE};
        for (int n : wrong) {
            due("end(" + n + ")", x.end(n), -1);
            due("the TAPE behind end(" + n + ")", x.count(5), 11);
        }
        due("all of it", x.end(11), 11);
        due("it is read", x.war(), 1);
        due("rain", x.count(3), 7);
    }

    private static void warRead() {
        Sentences.of(4, "The TAPE (empty then) is the WAR (in place of another): how many LINES");
        x = new TwoCalendars();
        Due.feed(x, HEAD + LAND + LAND + "feast 0 0 0 for 1;truce 1 from 3 to 4;");
        due("five LINES", x.war(), 5);
        due("the TAPE is empty", x.count(5), 0);
        due("a change", x.found(1, 0, 0, 1), 1);
        Due.feed(x, "war rain 100;" + LAND);
        due("two LINES", x.war(), 2);
        due("the TAPE is empty again", x.count(5), 0);
        int[] counts = {1, 0, 0, 100, 2, 0, 0, 0};
        for (int what = 0; what < counts.length; what++) {
            due("count(" + what + ") of the other WAR", x.count(what), counts[what]);
        }
        due("LAND 1 is gone", x.land(1, 0), -2);
        due("its FEAST is gone", x.why(0, 0), 0);
        due("nothing to undo", x.undo(), -5);
    }

    /** Nothing of a WAR, read or refused, is left in those behind it. */
    private static void warsByTurns() {
        Sentences.of(4, "The TAPE (empty then) is the WAR (in place of another)");
        String full = "war rain 9;" + "land from 2 week 10 rests 3 year 1 2 3 4 5 6 7 8 leap 2 in 7 adds 9;".repeat(3)
            + "feast 0 0 0 for 9;feast 1 0 0 for 9;truce 0 from 0 to 1999;truce 2 from 5 to 6;";
        x = Due.of("war rain 0;" + LAND, 2);
        String small = Stays.of(x);
        Due.feed(x, full);
        due("eight LINES", x.war(), 8);
        due("a change", x.grant(0, 7, 7), 2);
        due("LAND 1 and LAND 2 on 20", x.who(20), 6);
        Due.feed(x, "war rain 0;" + LAND);
        due("two LINES", x.war(), 2);
        Stays.asBefore("the WAR", x, small);
        Due.feed(x, full + "#");
        due("refused", x.war(), -4);
        Due.feed(x, "war rain 0;" + LAND);
        due("two LINES again", x.war(), 2);
        Stays.asBefore("the WAR again", x, small);
        due("nothing to undo", x.undo(), -5);
        due("no leap", x.land(0, 4), 0);
        due("the DAY of a date", x.day(0, 5, 0, 0), 5);
        due("the date of a DAY", x.date(0, 1999, 0), 1999);
        due("the period", x.period(0), 2);
    }

    private static void noWarThen() {
        Sentences.of(4, "(0: there is none then)");
        x = new TwoCalendars();
        due("an empty TAPE", x.war(), 0);
        due("no WAR", x.who(0), -2);
        Due.feed(x, HEAD + LAND + "feast 0 0 0 for 1;truce 0 from 3 to 4;");
        due("four LINES", x.war(), 4);
        due("a change", x.grant(0, 5, 5), 1);
        Due.feed(x, " \n ");
        due("blanks alone", x.war(), 0);
        for (int what = 0; what < 8; what++) {
            due("count(" + what + ")", x.count(what), 0);
        }
        due("who(0)", x.who(0), -2);
        due("may(0, 0)", x.may(0, 0), -2);
        due("undo()", x.undo(), -2);
        for (int i = 0; i < 2; i++) {
            Due.feed(x, HEAD + LAND);
            due("a WAR again", x.war(), 2);
        }
        due("none again", x.war(), 0);
        for (int what = 0; what < 8; what++) {
            due("count(" + what + ") again", x.count(what), 0);
        }
    }

    private static void warRefused() {
        Sentences.of(4, "-4: a FAULT (all stays)");
        x = new TwoCalendars();
        Due.feed(x, HEAD + "land from 1 week 3 rests 2 year 5;" + LAND + "feast 0 0 0 for 1;truce 1 from 3 to 4;");
        due("five LINES", x.war(), 5);
        due("a founded FEAST", x.found(0, 0, 2, 1), 1);
        due("an ended one", x.ends(0), 1);
        due("a granted TRUCE", x.grant(0, 7, 8), 1);
        due("a row", x.row(2, 0, 3), 0);
        due("an image", x.image(1), 0);
        Due.feed(x, "war rain 9;land from 0 week 10 rests 0 year 7;feast 0 0 6 for 2;truce 0 from 0 to 1999;#");
        String before = Stays.of(x);
        due("a FAULT at the end", x.war(), -4);
        Stays.asBefore("all", x, before);
        due("again", x.war(), -4);
        due("its place", x.fault(1), 87);
        due("the TAPE stays", x.end(88), 88);
        due("changes stay", x.undo(), 2);
        due("one more is taken back", x.undo(), 1);
        due("the ended FEAST is back", x.feast(1, 2), 2);
        due("images stay", x.back(1), 0);
        due("three changes", x.count(6), 3);
        due("rows stay", x.write(2, 2, 0), 0);
        due("mended", x.end(87), 87);
        due("read then", x.war(), 4);
        due("its rain", x.count(3), 9);
    }

    private static void faultTold() {
        Sentences.of(5, "Of the latest war(), what 0: its FAULT, 0 without, 1: its place (NONE without)");
        x = new TwoCalendars();
        Due.feed(x, "war rain 101;");
        due("a FAULT", x.war(), -4);
        due("its kind", x.fault(0), 2);
        due("its place", x.fault(1), 9);
        Due.feed(x, "war rain 100;");
        due("its kind until the next war()", x.fault(0), 2);
        due("its place until the next war()", x.fault(1), 9);
        due("without", x.war(), 1);
        due("no kind", x.fault(0), 0);
        due("no place", x.fault(1), -1);
        due("an image", x.image(0), 0);
        Due.feed(x, "#");
        due("a FAULT at place 0", x.war(), -4);
        due("its kind there", x.fault(0), 1);
        due("its place there", x.fault(1), 0);
        due("back", x.back(0), 0);
        due("the latest war()'s still", x.fault(0), 1);
        due("its place still", x.fault(1), 0);
        due("cut", x.end(0), 0);
        due("an empty TAPE", x.war(), 0);
        due("no kind of it", x.fault(0), 0);
        due("no place of it", x.fault(1), -1);
    }

    private static void faultOfNone() {
        Sentences.of(5, "NONE for another what, and ahead of any (what 1)");
        x = new TwoCalendars();
        due("place ahead of any", x.fault(1), -1);
        due("kind ahead of any", x.fault(0), 0);
        int[] others = {-1, 2, 3, Integer.MIN_VALUE, Integer.MAX_VALUE};
        for (int what : others) {
            due("fault(" + what + ") ahead of any", x.fault(what), -1);
        }
        Due.feed(x, "war rain 101;");
        due("fed, not read", x.fault(1), -1);
        due("a FAULT", x.war(), -4);
        for (int what : others) {
            due("fault(" + what + ") of one", x.fault(what), -1);
        }
        due("what 0", x.fault(0), 2);
        due("what 1", x.fault(1), 9);
    }
}
