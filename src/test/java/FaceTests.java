import java.io.IOException;
import java.lang.reflect.Constructor;
import java.lang.reflect.Field;
import java.lang.reflect.Method;
import java.lang.reflect.Modifier;
import java.nio.file.Files;
import java.nio.file.Path;
import java.util.ArrayList;
import java.util.HashSet;
import java.util.List;
import java.util.Set;
import java.util.TreeSet;
import java.util.regex.Matcher;
import java.util.regex.Pattern;

/** The public face as the document's code block has it, and the rules of LANGUAGE.md that can be seen. */
public final class FaceTests {
    private static final String[] FACE = {
        "int feed(int,int,int,int,int)", "int end(int)", "int war()", "int fault(int)", "int land(int,int)",
        "int month(int,int,int)", "int feast(int,int)", "int truce(int,int)", "int date(int,int,int)",
        "int day(int,int,int,int)", "int may(int,int)", "int why(int,int)", "int who(int)", "int next(int,int)",
        "int many(int,int,int)", "int waits(int,int,int)", "int waiting(int,int,int)", "int share(int,int,int,int)",
        "int meets(int,int,int,int,int)", "int period(int)", "int alike(int,int,int)", "int years(int)",
        "int comes(int,int)", "int saints(int,int,int,int,int)", "long founded(int,int,int,int,int)",
        "int bridge(int,int,int,int)", "int bridged(int,int,int,int)", "int oldest(int)", "int older(int,int)",
        "int apart(int)", "int idle(int)", "int fits(int,int,int)", "int fit(int,int,int,int)",
        "int sure(int,int,int,int)", "int ask(int,int,int)", "int leaves(int,int,int)", "int holds(int)",
        "int overlap(int,int)", "int most()", "int age(int,int,int)", "int gains(int,int,int,int)",
        "int march(int,int,int)", "int clash(int,int,int,int)", "int place(int,int,int,int)",
        "int alone(int,int,int,int)", "int begin(int,int,int,int,int)", "int begins(int,int,int,int,int)",
        "int game(int,int,int,int)", "int takes(int,int,int,int)", "int found(int,int,int,int)",
        "int grant(int,int,int)", "int ends(int)", "int undo()", "int drawn(int,int,int,int)",
        "int luck(int,int,int,int,int)", "int count(int)", "int image(int)", "int back(int)", "int row(int,int,int)",
        "int write(int,int,long)", "int paste(int,int,int,int,int)"};

    public static void main(String[] args) throws IOException {
        document(Files.readString(Path.of("../shared/DOC.md")));
        face();
        inside();
        text(Files.readString(Path.of("src/main/java/TwoCalendars.java")));
        Due.finish("FaceTests");
    }

    /** The face that the tests look for is the one that the document's code block has, now as when they were written. */
    private static void document(String doc) {
        Set<String> told = new TreeSet<>();
        Matcher method = Pattern.compile("(?m)^    public (int|long) (\\w+)\\((.*)\\);$").matcher(doc);
        while (method.find()) {
            told.add(method.group(1) + " " + method.group(2) + "(" + method.group(3).replaceAll(" \\w+(?=,|$)", "").replace(" ", "") + ")");
        }
        Due.isTrue("the document's methods " + told, told.equals(new TreeSet<>(List.of(FACE))));
        Matcher constant = Pattern.compile("(?m)^    public static final int NONE = (-?\\d+);$").matcher(doc);
        Due.is("the document's NONE", TwoCalendars.NONE, constant.find() ? Integer.parseInt(constant.group(1)) : 0);
    }

    private static void face() {
        Class<?> c = TwoCalendars.class;
        Due.isTrue("public and final", Modifier.isPublic(c.getModifiers()) && Modifier.isFinal(c.getModifiers()));
        Set<String> want = new TreeSet<>(List.of(FACE));
        Set<String> got = new TreeSet<>();
        Set<String> open = new HashSet<>();
        for (Method m : c.getDeclaredMethods()) {
            if (!Modifier.isPrivate(m.getModifiers())) {
                List<String> types = new ArrayList<>();
                for (Class<?> type : m.getParameterTypes()) {
                    types.add(type.getName());
                }
                got.add(m.getReturnType().getName() + " " + m.getName() + "(" + String.join(",", types) + ")");
                open.add(m.getName());
                Due.isTrue(m.getName() + " is public, not static", Modifier.isPublic(m.getModifiers()) && !Modifier.isStatic(m.getModifiers()));
            }
        }
        for (Method m : c.getDeclaredMethods()) {
            Due.isTrue(m.getName() + " has a name of its own", !Modifier.isPrivate(m.getModifiers()) || !open.contains(m.getName()));
        }
        Due.isTrue("methods " + got, got.equals(want));
        for (Field f : c.getDeclaredFields()) {
            boolean isNone = f.getName().equals("NONE");
            Due.isTrue("field " + f.getName(), isNone == Modifier.isPublic(f.getModifiers()) && (isNone || Modifier.isPrivate(f.getModifiers())));
            Due.isTrue("static " + f.getName(), !Modifier.isStatic(f.getModifiers()) || Modifier.isFinal(f.getModifiers()));
        }
        Constructor<?>[] made = c.getDeclaredConstructors();
        Due.isTrue("one constructor", made.length == 1 && Modifier.isPublic(made[0].getModifiers()) && made[0].getParameterCount() == 0);
    }

    private static void inside() {
        Set<String> open = new HashSet<>();
        for (String method : FACE) {
            open.add(method.substring(method.indexOf(' ') + 1, method.indexOf('(')));
        }
        Class<?>[] classes = TwoCalendars.class.getDeclaredClasses();
        Due.isTrue("some twelve classes", classes.length + 1 <= 12);
        for (Class<?> c : classes) {
            Due.isTrue(c.getName() + " is static", Modifier.isStatic(c.getModifiers()));
            int fields = 0;
            for (Field f : c.getDeclaredFields()) {
                fields += Modifier.isStatic(f.getModifiers()) ? 0 : 1;
                Due.isTrue("static " + f.getName(), !Modifier.isStatic(f.getModifiers()) || Modifier.isFinal(f.getModifiers()));
            }
            Due.isTrue(c.getName() + " has some twenty fields", fields <= 20);
            for (Method m : c.getDeclaredMethods()) {
                Due.isTrue(c.getName() + "." + m.getName() + " has a name of its own", !open.contains(m.getName()));
                Due.isTrue(m.getName() + " takes seven at most", m.getParameterCount() <= 7);
            }
        }
    }

    private static void text(String source) {
        String bare = source.replaceAll("(?s)/\\*.*?\\*/", "").replaceAll("//[^\n]*", "").replaceAll("\"[^\"\n]*\"", "\"\"");
        String[] words = {"throw", "throws", "try", "catch", "synchronized", "assert", "package", "volatile", "native", "System\\.out",
            "Object", "Thread", "Random", "var", "toString", "hashCode", "finalize", "protected", "interface"};
        for (String word : words) {
            Due.isTrue("no " + word, !Pattern.compile("\\b" + word + "\\b").matcher(bare).find());
        }
        for (String sign : new String[] {"->", "::", "@", "Exact("}) {
            Due.isTrue("no " + sign, !bare.contains(sign));
        }
        Due.isTrue("no static block", !Pattern.compile("\\bstatic\\s*\\{").matcher(bare).find());
        Matcher imports = Pattern.compile("import ([^;]+);").matcher(bare);
        while (imports.find()) {
            Due.isTrue("import " + imports.group(1), imports.group(1).equals("java.util.Arrays"));
        }
        Matcher library = Pattern.compile("\\b(Arrays|Math|System|Integer|Long)\\.(\\w+)").matcher(bare);
        Set<String> allowed = Set.of("Arrays.fill", "Math.min", "Math.max", "System.arraycopy");
        while (library.find()) {
            Due.isTrue(library.group(), allowed.contains(library.group()));
        }
        for (char sign : source.toCharArray()) {
            Due.isTrue("signs are plain", sign == '\n' || sign >= 32 && sign < 127);
        }
        lengths(source.split("\n"));
    }

    /** A method begins on a line with a bracket at its end and ends on the next line that closes as deep. */
    private static void lengths(String[] lines) {
        Pattern head = Pattern.compile("^( {4}| {8})(?! |(?:if|for|while|switch)\\b)[\\w<>\\[\\] ]+\\(.*\\{$");
        for (int i = 0; i < lines.length; i++) {
            Matcher m = head.matcher(lines[i]);
            if (m.find()) {
                int end = i;
                while (end < lines.length && !lines[end].equals(m.group(1) + "}")) {
                    end++;
                }
                Due.isTrue("short: " + lines[i].trim(), end - i <= 60);
            }
            Due.isTrue("line " + (i + 1) + " is short", lines[i].length() <= 130);
        }
    }
}
