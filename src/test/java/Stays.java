/** What an object shows of its state by calls that change nothing. */
final class Stays {
    private Stays() {
    }

    /** The war, its changes' number, the tape's length, the slots' number; some 150 calls for a war of two lands. */
    static String of(TwoCalendars x) {
        StringBuilder s = new StringBuilder();
        for (int what = 0; what < 8; what++) {
            s.append(x.count(what)).append(' ');
        }
        for (int land = 0; land < x.count(0); land++) {
            for (int what = 0; what < 7; what++) {
                s.append(x.land(land, what)).append(' ');
            }
            for (int month = 0; month < x.land(land, 3); month++) {
                s.append(x.month(land, month, 0)).append(' ').append(x.month(land, month, 1)).append(' ');
            }
        }
        for (int feast = 0; feast < x.count(1); feast++) {
            for (int what = 0; what < 4; what++) {
                s.append(x.feast(feast, what)).append(' ');
            }
        }
        for (int truce = 0; truce < x.count(2); truce++) {
            for (int what = 0; what < 3; what++) {
                s.append(x.truce(truce, what)).append(' ');
            }
        }
        for (int day = 0; day < 2000; day += day < 12 ? 1 : 71) {
            s.append(x.who(day)).append(' ');
        }
        return s.toString();
    }

    static void asBefore(String what, TwoCalendars x, String before) {
        String after = of(x);
        Due.isTrue(what + " is as before: " + before + " / " + after, after.equals(before));
    }
}
