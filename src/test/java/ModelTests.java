import java.lang.reflect.Method;
import java.util.ArrayList;
import java.util.HashMap;
import java.util.List;
import java.util.Map;
import java.util.Random;

/** Long runs of random calls on the class and on its model, which must answer alike. */
public final class ModelTests {
    private static final int RUNS = 400;

    // a letter for the kind of each argument, see value()
    private static final String[] CALLS = {
        "land LW", "month LMY", "feast FW", "truce FW", "date LDw", "day LYMm", "may LD", "why LD", "who D",
        "next SD", "many SDT", "waits SDT", "waiting SDT", "share SDTb", "meets LkOkD", "period L", "alike LOD",
        "years D", "comes LD", "saints LMYyn", "founded LMYyn", "bridge LDTn", "bridged LDTn", "oldest s",
        "older si", "apart s", "idle s", "fits sDT", "fit sDTi", "sure sDTb", "ask sDT", "leaves sDT", "holds D",
        "overlap nD", "most ", "age LDT", "gains LODT", "march LDN", "clash LODN", "place LODN", "alone LODT",
        "begin LODTN", "begins LODTN", "game LODg", "takes LODg", "found LMmn", "found LMmn", "found LMmn",
        "grant LDT", "grant LDT", "ends L", "ends L", "undo ", "drawn RDNb", "luck RyLDN", "count W", "image q",
        "back q", "row swr", "write siv", "paste sisii", "fault b", "end i", "feed vvvvv"};

    private static final Map<String, Method[]> METHODS = new HashMap<>();
    private static Random random = new Random(1);
    private static int latestDay = 0;
    private static int latestLand = 0;

    public static void main(String[] args) throws ReflectiveOperationException {
        for (Method method : TwoCalendars.class.getDeclaredMethods()) {
            if (java.lang.reflect.Modifier.isPublic(method.getModifiers())) {
                METHODS.put(method.getName(), new Method[] {method, Model.class.getMethod(method.getName(), method.getParameterTypes())});
            }
        }
        int runs = args.length > 0 ? Integer.parseInt(args[0]) : RUNS;
        int seed = args.length > 1 ? Integer.parseInt(args[1]) : 1;
        for (int i = 0; i < runs; i++) {
            random = new Random(seed * 1000003L + i);
            run(seed * 1000003L + i);
        }
        Due.finish("ModelTests");
    }

    private static void run(long seed) throws ReflectiveOperationException {
        TwoCalendars x = new TwoCalendars();
        Model model = new Model();
        int left = 500;
        while (left > 0) {
            int texts = random.nextInt(4) == 0 ? 3 : 1;
            for (int i = 0; i < texts; i++) {
                left -= tell(x, model, i + 1 < texts ? spoil(text()) : random.nextInt(30) == 0 ? "" : text(), seed);
            }
            int calls = 40 + random.nextInt(150);
            for (int i = 0; i < calls && left > 0; i++) {
                left -= random.nextInt(12) == 0 ? fillSlot(x, model, seed) : 0;
                both(x, model, CALLS[random.nextInt(CALLS.length)], seed);
                left--;
            }
        }
    }

    private static void both(TwoCalendars x, Model model, String call, long seed) throws ReflectiveOperationException {
        int blank = call.indexOf(' ');
        String kinds = call.substring(blank + 1);
        Method[] methods = METHODS.get(call.substring(0, blank));
        Object[] values = new Object[kinds.length()];
        for (int i = 0; i < values.length; i++) {
            long v = value(kinds.charAt(i), model);
            if (methods[0].getParameterTypes()[i] == long.class) {
                values[i] = v;
            } else {
                values[i] = (int) v;
            }
        }
        ask(x, model, methods, seed, values);
    }

    private static void call(TwoCalendars x, Model model, String name, long seed, Object... values) throws ReflectiveOperationException {
        ask(x, model, METHODS.get(name), seed, values);
    }

    private static void ask(TwoCalendars x, Model model, Method[] methods, long seed, Object[] values) throws ReflectiveOperationException {
        long got = ((Number) methods[0].invoke(x, values)).longValue();
        long want = ((Number) methods[1].invoke(model, values)).longValue();
        Due.is("run " + seed + ": " + methods[0].getName() + List.of(values), got, want);
    }

    private static int tell(TwoCalendars x, Model model, String text, long seed) throws ReflectiveOperationException {
        call(x, model, "end", seed, 0);
        int calls = 4;
        for (int at = 0; at < text.length() && at < 1200; at += 20) {
            Object[] numbers = new Object[5];
            for (int k = 0; k < 5; k++) {
                int v = 0;
                for (int b = 0; b < 4; b++) {
                    int p = at + 4 * k + b;
                    v = v << 8 | (p < text.length() ? text.charAt(p) : 0);
                }
                numbers[k] = v;
            }
            call(x, model, "feed", seed, numbers);
            calls++;
        }
        call(x, model, "end", seed, text.length());
        call(x, model, "war", seed);
        call(x, model, "fault", seed, 0);
        call(x, model, "fault", seed, 1);
        return calls + 1;
    }

    // ---- texts ----

    private static int upTo(int most) {
        return random.nextInt(most + 1);
    }

    private static String gap() {
        return random.nextInt(6) == 0 ? "\n" : random.nextInt(6) == 0 ? "  " : " ";
    }

    private static String text() {
        StringBuilder text = new StringBuilder("war rain" + gap() + upTo(100) + ";");
        List<int[]> months = new ArrayList<>();
        int lands = random.nextInt(12) == 0 ? upTo(4) : 1 + upTo(2);
        boolean small = random.nextInt(3) == 0;
        for (int l = 0; l < lands; l++) {
            text.append(land(months, small));
        }
        int rest = upTo(random.nextInt(4) == 0 ? 26 : 10);
        for (int i = 0; i < rest && lands > 0; i++) {
            int l = upTo(lands - 1);
            if (random.nextBoolean()) {
                int m = upTo(months.get(l).length - 1);
                int d = upTo(months.get(l)[m] - 1);
                text.append("feast ").append(l).append(gap()).append(m).append(gap()).append(d).append(" for ").append(1 + upTo(8)).append(";");
            } else {
                int from = upTo(1999);
                int to = Math.min(1999, from + upTo(random.nextInt(4) == 0 ? 1999 : 60));
                text.append("truce ").append(l).append(" from ").append(from).append(" to ").append(to).append(";").append(gap());
            }
        }
        return text.toString();
    }

    private static String land(List<int[]> months, boolean small) {
        int week = 2 + upTo(8);
        int rests = random.nextInt(3) == 0 ? upTo((1 << week) - 2) : random.nextInt(3) == 0 ? 0 : 1 << upTo(week - 1);
        int[] lengths = new int[1 + upTo(random.nextInt(30) == 0 ? 8 : small ? 2 : 7)];
        StringBuilder text = new StringBuilder();
        int from = random.nextInt(3) == 0 ? upTo(999) : upTo(20);
        text.append("land from ").append(from).append(gap()).append("week ").append(week).append(" rests ").append(rests).append(" year");
        for (int m = 0; m < lengths.length; m++) {
            lengths[m] = 1 + upTo(small ? 6 : 59);
            text.append(gap()).append(lengths[m]);
        }
        months.add(lengths);
        if (random.nextBoolean()) {
            text.append(gap()).append("leap ").append(2 + upTo(7)).append(" in ").append(upTo(lengths.length - 1)).append(" adds ").append(1 + upTo(8));
        }
        return text.append(";").append(gap()).toString();
    }

    private static String spoil(String text) {
        StringBuilder s = new StringBuilder(text);
        int changes = 1 + upTo(2);
        for (int i = 0; i < changes && s.length() > 2; i++) {
            int at = upTo(s.length() - 1);
            switch (upTo(6)) {
                case 0: s.deleteCharAt(at); break;
                case 1: s.setCharAt(at, "0129 ;#azw\t".charAt(upTo(10))); break;
                case 2: s.insert(at, "9"); break;
                case 3: s.setLength(at); break;
                case 4: s.insert(at, ";"); break;
                case 5: s.insert(at, (char) (128 + upTo(127))); break;
                default: s.insert(at, " " + upTo(70)); break;
            }
        }
        return s.toString();
    }

    // ---- arguments ----

    private static long value(char kind, Model model) {
        if (random.nextInt(60) == 0) {
            long[] odd = {-1, -2, 3, 8, 60, 61, 2000, 2001, 1999, Integer.MAX_VALUE, Integer.MIN_VALUE, 1 << 20, 100, 201, 0};
            return odd[upTo(odd.length - 1)];
        }
        switch (kind) {
            case 'L': return latestLand = upTo(Math.max(0, model.count(0) - 1));
            case 'O': return (latestLand + 1 + upTo(Math.max(0, model.count(0) - 2))) % Math.max(2, model.count(0));
            case 'W': return upTo(7);
            case 'M': return upTo(Math.max(0, model.land(0, 3) - 1));
            case 'Y': return random.nextInt(3) == 0 ? upTo(1999) : upTo(20);
            case 'm': return upTo(random.nextInt(3) == 0 ? 30 : 6);
            case 'F': return upTo(11);
            case 'D': return latestDay = random.nextInt(3) == 0 ? upTo(60) : random.nextInt(4) == 0 ? 1960 + upTo(39) : upTo(1999);
            case 'T': return random.nextInt(3) == 0 ? latestDay + upTo(Math.max(0, 1999 - latestDay)) : Math.min(1999, latestDay + upTo(60));
            case 'w': return upTo(3);
            case 'S': return upTo((1 << model.count(0)) - 1);
            case 'b': return upTo(1);
            case 'k': return upTo(5);
            case 'y': return 1 + upTo(19);
            case 'n': return 1 + upTo(8);
            case 's': return upTo(3);
            case 'i': return upTo(random.nextInt(3) == 0 ? 60 : 8);
            case 'N': return 1 + upTo(random.nextInt(3) == 0 ? 300 : 40);
            case 'g': return 1 + upTo(39);
            case 'R': return random.nextInt(5) == 0 ? 2000000000 - upTo(20) : random.nextInt(2000000001);
            case 'q': return upTo(2);
            case 'r': return upTo(60);
            default: return random.nextInt(4) == 0 ? random.nextLong() : random.nextInt(20);
        }
    }

    /** Makes a slot's row one of orders or of what was seen, most of them good ones. */
    private static int fillSlot(TwoCalendars x, Model model, long seed) throws ReflectiveOperationException {
        int slot = upTo(3);
        boolean orders = random.nextBoolean();
        int parts = orders ? 4 : 3;
        int size = upTo(random.nextInt(4) == 0 ? 8 : 2);
        int day = upTo(1999);
        call(x, model, "row", seed, slot, random.nextInt(3) == 0 ? upTo(3) : 1, size * parts + (random.nextInt(20) == 0 ? 1 : 0));
        for (int i = 0; i < size; i++) {
            int land = upTo(Math.max(0, model.count(0) - 1));
            day = orders ? upTo(1999) : day;
            int what = upTo(4);
            long[] order = {land, model.date(land, day, 0), model.date(land, day, 1), model.date(land, day, 2)};
            long[] sight = {land, what, what == 4 ? model.may(land, day) : model.date(land, day, what)};
            for (int k = 0; k < parts; k++) {
                long v = random.nextInt(60) == 0 ? upTo(9) - 2 : orders ? order[k] : sight[k];
                call(x, model, "write", seed, slot, i * parts + k, v);
            }
        }
        return size * parts + 1;
    }
}
