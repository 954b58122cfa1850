import java.io.IOException;
import java.lang.reflect.Constructor;
import java.lang.reflect.Field;
import java.lang.reflect.Method;
import java.lang.reflect.Modifier;
import java.nio.file.Files;
import java.nio.file.Path;
import java.util.ArrayList;
import java.util.List;
import java.util.Set;
import java.util.TreeSet;
import java.util.regex.Matcher;
import java.util.regex.Pattern;

/** The face is the document's and no more, and the source keeps to what LANGUAGE.md leaves, as far as a look can tell. */
public final class FaceTest {
    private static final Check C = new Check("FaceTest");
    private static final Path SOURCE = Path.of("src/main/java/PastOnce.java");
    private static final Path DOC = Path.of("../shared/DOC.md");
    private static final String[] METHODS = {
        "int dish(int, int)", "int dishes(int, int, int)", "int mend(int, int, int)", "int of(int, int)", "int feed(int)", "int law()",
        "int best(int)", "int sight(int, int)", "int byLaw(int)", "long mean(int)", "int left(int, int)", "int after(int, int)", "int gone(int)",
        "int lay(int, int)", "int small(int, int)", "long offers(int, int, int)", "int stop(int)", "int judge(int)", "int ways(int)",
        "int drawn(int, int, int)", "int take()", "int goOn()", "int end()", "int led(int)", "int image()", "int back()", "int undo()",
        "int redo()", "int body(int)", "int act(int, int, int)", "int trace(int)", "int keep(int, int)", "int row(int, int, int)",
        "int put(int, int, long)", "long element(int, int)", "int shift(int, int, int, int, int)", "int taken(int, int)", "int count(int)"};
    private static final String[] CONSTANTS = {"BAD", "NOT", "FULL", "STATE", "VOID"};

    public static void main(String[] args) throws IOException {
        face();
        order();
        nested();
        words();
        C.finish();
    }

    private static void face() {
        Class<?> c = PastOnce.class;
        C.holds("public and final", Modifier.isPublic(c.getModifiers()) && Modifier.isFinal(c.getModifiers()));
        Set<String> methods = new TreeSet<>();
        Set<String> hidden = new TreeSet<>();
        for (Method m : c.getDeclaredMethods()) {
            if (Modifier.isPrivate(m.getModifiers())) {
                hidden.add(m.getName());
            } else {
                methods.add(told(m));
            }
        }
        C.holds("the methods are " + methods, methods.equals(new TreeSet<>(Set.of(METHODS))));
        for (String name : names()) {
            C.holds("no private method is called " + name, !hidden.contains(name));
        }
        Set<String> fields = new TreeSet<>();
        for (Field f : c.getDeclaredFields()) {
            if (!Modifier.isPrivate(f.getModifiers())) {
                fields.add(f.getName());
            }
        }
        C.holds("the constants are " + fields, fields.equals(new TreeSet<>(Set.of(CONSTANTS))));
        Constructor<?>[] constructors = c.getDeclaredConstructors();
        C.holds("one constructor", constructors.length == 1 && Modifier.isPublic(constructors[0].getModifiers())
                && constructors[0].getParameterCount() == 0);
    }

    /** The source has the face in the document's order and words, parted as the document says. */
    private static void order() throws IOException {
        String doc = Files.readString(DOC);
        List<String> due = new ArrayList<>();
        Matcher part = Pattern.compile("Ahead of the calls (.*) the interface says: (---- .*)\\.\n").matcher(doc);
        while (part.find()) {
            due.add(part.group(2));
            for (String call : part.group(1).replace("`", "").split(", ")) {
                Matcher m = Pattern.compile("public \\w+ " + call + "\\(.*\\)(?=;)").matcher(doc);
                due.add(m.find() ? m.group() : call);
            }
        }
        C.due("parts and calls of the document", due.size(), METHODS.length + 6);
        List<String> stand = new ArrayList<>();
        Matcher row = Pattern.compile("(?m)^ {4}(?:// (---- .*)|(public \\w+ \\w+\\(.*\\)) \\{)$").matcher(Files.readString(SOURCE));
        while (row.find()) {
            stand.add(row.group(1) != null ? row.group(1) : row.group(2));
        }
        C.holds("the source has " + stand, stand.equals(due));
    }

    private static Set<String> names() {
        Set<String> names = new TreeSet<>();
        for (String m : METHODS) {
            names.add(m.substring(m.indexOf(' ') + 1, m.indexOf('(')));
        }
        return names;
    }

    private static String told(Method m) {
        StringBuilder s = new StringBuilder(m.getReturnType().getName()).append(' ').append(m.getName()).append('(');
        for (int i = 0; i < m.getParameterCount(); i++) {
            s.append(i > 0 ? ", " : "").append(m.getParameterTypes()[i].getName());
        }
        return (Modifier.isPublic(m.getModifiers()) && !Modifier.isStatic(m.getModifiers()) ? "" : "not so: ") + s.append(')');
    }

    private static void nested() {
        Class<?>[] all = PastOnce.class.getDeclaredClasses();
        C.holds("at most twelve classes", all.length + 1 <= 12);
        for (Class<?> c : all) {
            C.holds(c + " is static", Modifier.isStatic(c.getModifiers()) && !Modifier.isPublic(c.getModifiers())
                    && !Modifier.isProtected(c.getModifiers()));
            int fields = 0;
            for (Field f : c.getDeclaredFields()) {
                boolean shared = Modifier.isStatic(f.getModifiers());
                fields += shared ? 0 : 1;
                C.holds(f + " is no static state", !shared || Modifier.isFinal(f.getModifiers()));
            }
            C.holds(c + " has at most twenty fields", fields <= 20);
            for (Method m : c.getDeclaredMethods()) {
                C.holds(m + " takes at most seven", m.getParameterCount() <= 7);
                C.holds(m + " bears no name of the face", !names().contains(m.getName()));
            }
        }
    }

    private static void words() throws IOException {
        String text = Files.readString(SOURCE).replaceAll("(?s)/\\*.*?\\*/", "").replaceAll("//[^\n]*", "");
        String[] banned = {"\\bthrow\\b", "\\btry\\b", "\\bcatch\\b", "\\bsynchronized\\b", "\\bassert\\b", "->", "::", "\\bvar\\b", "\\bpackage\\b",
            "\\bfloat\\b", "\\bdouble\\b", "\\w+Exact\\b", "\\bthis\\s*\\(", "\\bprotected\\b", "\\bhashCode\\b", "\\bequals\\b", "\\btoString\\b",
            "\\bThread\\b", "\\bRandom\\b", "\\bcurrentTimeMillis\\b", "\\bnanoTime\\b", "\\bwhile \\(true\\)", "for \\(;;\\)", "static \\{",
            "[^\\x00-\\x7f]"};
        for (String word : banned) {
            Matcher m = Pattern.compile(word).matcher(text);
            C.holds("the source has no " + word, !m.find());
        }
        Matcher imports = Pattern.compile("import ([^;]+);").matcher(text);
        while (imports.find()) {
            C.holds("imports " + imports.group(1), imports.group(1).equals("java.util.Arrays"));
        }
        Matcher library = Pattern.compile("\\b(Arrays|Math|System|Integer|Long)\\.(\\w+)").matcher(text);
        Set<String> allowed = Set.of("Arrays.fill", "Arrays.copyOf", "Math.min", "Math.max", "System.arraycopy");
        while (library.find()) {
            C.holds("uses " + library.group(), allowed.contains(library.group()));
        }
        int longest = 0;
        int length = 0;
        for (String row : Files.readString(SOURCE).split("\n")) {
            boolean begins = row.matches(" {4}(?: {4})?(?!.*\\b(?:class|new|return|else|if|for|while|switch)\\b)\\S.*\\) \\{");
            length = begins ? 0 : length + 1;
            if (row.equals("    }") || row.equals("        }")) {
                longest = Math.max(longest, length);
            }
        }
        C.holds("methods stay short", longest <= 60);
    }
}
