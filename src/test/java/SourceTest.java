import java.io.IOException;
import java.lang.reflect.Constructor;
import java.lang.reflect.Field;
import java.lang.reflect.Method;
import java.lang.reflect.Modifier;
import java.nio.file.Files;
import java.nio.file.Path;
import java.util.ArrayList;
import java.util.List;
import java.util.regex.Matcher;
import java.util.regex.Pattern;

/** What of ../shared/LANGUAGE.md, and of the public face, can be seen without a run. */
public final class SourceTest {
    private static final String SOURCE = "src/main/java/CordHouse.java";
    private static final String[] FACE = {
        "cord(int,int,int,int)", "hang(int,int,int,int)", "knot(int,int,int,int,int)", "untie(int,int,int)",
        "tear(int,int,int)", "tie(int,int,int)", "gap(int,int)", "clear(int)", "copy(int,int)", "about(int,int,int)",
        "knotAt(int,int,int,int)", "levels(int)", "level(int,int,int)", "number(int,int)", "under(int,int)",
        "sum(int,int)", "part(int,int)", "drop(int)", "sumAt(int,int,int)", "settle(int)", "span(int,int,int)",
        "cure(int)", "cured(int)", "found(int)", "grouping(int,int)", "period(int,int)", "likeness(int,int)",
        "count(int,int)"};
    private static final String[] FORBIDDEN = {
        "\\bthrow\\b", "\\btry\\b", "\\bcatch\\b", "\\bsynchronized\\b", "\\bassert\\b", "\\bprotected\\b",
        "->", "::", "\\bfloat\\b", "\\bdouble\\b", "\\bObject\\b", "Exact\\b", "\\bpackage\\b",
        "import (?!java\\.util\\.Arrays;)", "Arrays\\.(?!copyOf\\b|copyOfRange\\b|fill\\b)",
        "System\\.(?!arraycopy\\b)", "\\[\\]\\[\\]\\[\\]", "static \\{"};

    private static String name(Method m) {
        StringBuilder text = new StringBuilder(m.getName()).append('(');
        for (Class<?> p : m.getParameterTypes()) {
            text.append(text.charAt(text.length() - 1) == '(' ? "" : ",").append(p.getName());
        }
        return text.append(')').toString();
    }

    private static void face() {
        List<String> due = new ArrayList<>(List.of(FACE));
        List<String> names = new ArrayList<>();
        for (Method m : CordHouse.class.getDeclaredMethods()) {
            boolean open = Modifier.isPublic(m.getModifiers());
            if (open) {
                Due.due("rule 1, on the face: " + name(m), due.remove(name(m)) ? 1 : 0, 1);
                Due.due("answers an int: " + name(m), m.getReturnType() == int.class ? 1 : 0, 1);
                names.add(m.getName());
            } else {
                Due.due("rule 1, private: " + name(m), Modifier.isPrivate(m.getModifiers()) ? 1 : 0, 1);
            }
        }
        Due.due("of the face there are not: " + due, due.size(), 0);
        Due.due("public and final", CordHouse.class.getModifiers() & (Modifier.PUBLIC | Modifier.FINAL),
            Modifier.PUBLIC | Modifier.FINAL);
        Constructor<?>[] made = CordHouse.class.getDeclaredConstructors();
        Due.due("one constructor", made.length, 1);
        Due.due("without arguments", made[0].getParameterCount(), 0);
        inside(CordHouse.class, names);
    }

    private static void inside(Class<?> house, List<String> names) {
        for (Class<?> c : house.getDeclaredClasses()) {
            Due.due("rule 2, static: " + c, Modifier.isStatic(c.getModifiers()) ? 1 : 0, 1);
            Due.due("rule 11, fields of " + c, c.getDeclaredFields().length <= 20 ? 1 : 0, 1);
            for (Method m : c.getDeclaredMethods()) {
                Due.due("rule 1, a name of the face in " + c + ": " + m.getName(), names.contains(m.getName()) ? 1 : 0, 0);
                Due.due("rule 11, parameters of " + m, m.getParameterCount() <= 7 ? 1 : 0, 1);
            }
        }
        Due.due("rule 11, classes", house.getDeclaredClasses().length <= 11 ? 1 : 0, 1);
    }

    private static void constants() {
        Due.due("NONE", CordHouse.NONE, -1);
        Due.due("RANGE", CordHouse.RANGE, -2);
        Due.due("FULL", CordHouse.FULL, -3);
        int open = 0;
        for (Field f : CordHouse.class.getDeclaredFields()) {
            boolean isPrivate = Modifier.isPrivate(f.getModifiers());
            open += isPrivate ? 0 : 1;
            if (Modifier.isStatic(f.getModifiers())) {
                Due.due("rule 5, final: " + f, Modifier.isFinal(f.getModifiers()) ? 1 : 0, 1);
            }
        }
        Due.due("rule 1, fields that are not private", open, 3);
    }

    /** Rule 11, and rule 12 as this class keeps it: rows are made by constructors, so no call makes an object. */
    private static void methods(String code) {
        Pattern method = Pattern.compile("(?m)^( +)(?:[\\w\\[\\]]+ )*(\\w+)\\([^;{}]*\\) \\{\n(?s:(.*?))\n\\1\\}");
        Matcher m = method.matcher(code);
        int n = 0;
        while (m.find()) {
            n++;
            boolean isConstructor = m.group(2).equals("CordHouse");
            Due.due("rule 11, lines of " + m.group(2), m.group(3).split("\n").length <= 60 ? 1 : 0, 1);
            Due.due("makes an object: " + m.group(2), !isConstructor && m.group(3).contains("new ") ? 1 : 0, 0);
        }
        Due.due("methods are seen", n > FACE.length ? 1 : 0, 1);
    }

    private static void words() throws IOException {
        String source = Files.readString(Path.of(SOURCE));
        String code = source.replaceAll("(?s)/\\*.*?\\*/", "").replaceAll("//[^\n]*", "");
        methods(code);
        for (String word : FORBIDDEN) {
            Matcher m = Pattern.compile(word).matcher(code);
            Due.due("in the code: " + word, m.find() ? 1 : 0, 0);
        }
        for (int i = 0; i < source.length(); i++) {
            if (source.charAt(i) > 126) {
                Due.due("a character at " + i, source.charAt(i), 0);
            }
        }
    }

    public static void main(String[] args) throws IOException {
        face();
        constants();
        words();
        Due.end();
    }
}
