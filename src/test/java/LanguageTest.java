import java.io.IOException;
import java.lang.reflect.Constructor;
import java.lang.reflect.Field;
import java.lang.reflect.Method;
import java.lang.reflect.Modifier;
import java.nio.file.Files;
import java.nio.file.Path;
import java.util.Map;
import java.util.Set;
import java.util.TreeMap;
import java.util.TreeSet;
import java.util.regex.Matcher;
import java.util.regex.Pattern;

/** The face of the document, and those rules of LANGUAGE.md that can be seen from the class and its text. */
public final class LanguageTest {
    private static final Check CHECK = new Check("LanguageTest");
    private static final Pattern METHOD = Pattern.compile("(?m)^    public (int|long) (\\w+)\\((.*)\\);$");
    private static final Pattern CONSTANT = Pattern.compile("(?m)^    public static final int (\\w+) = (-?\\d+);$");
    private static final String[] FORBIDDEN = {
        "\\b(throws?|try|catch|finally|synchronized|assert|import|package|volatile|transient|native|var)\\b",
        "\\b(Object|Exception|Error|Thread|getClass)\\b",
        "\\bSystem\\.(?!arraycopy)", "Exact\\s*\\(", "->", "::", "@"};

    private static String document = "";

    public static void main(String[] args) throws IOException {
        document = Files.readString(Path.of(args[0], "../shared/DOC.md"));
        face();
        constants();
        Class<?>[] inside = ChosenBackAtNine.class.getDeclaredClasses();
        CHECK.due("classes, twelve at most", inside.length <= 11 ? 1 : 0, 1);
        for (Class<?> c : inside) {
            CHECK.due(c.getName() + " is private and static",
                    c.getModifiers() & (Modifier.STATIC | Modifier.PRIVATE), Modifier.STATIC | Modifier.PRIVATE);
            members(c);
        }
        members(ChosenBackAtNine.class);
        text(Files.readString(Path.of(args[0], "src/main/java/ChosenBackAtNine.java")));
        CHECK.end();
    }

    private static String face(Method m) {
        StringBuilder s = new StringBuilder(m.getName()).append("(");
        for (Class<?> type : m.getParameterTypes()) {
            s.append(s.charAt(s.length() - 1) == '(' ? "" : ",").append(type.getSimpleName());
        }
        return s.append(")").append(m.getReturnType().getSimpleName()).toString();
    }

    /** The face as the document writes it: row(int,int,int)int and so on. */
    private static Set<String> faceOfTheDocument() {
        Set<String> face = new TreeSet<>();
        Matcher m = METHOD.matcher(document);
        while (m.find()) {
            face.add(m.group(2) + "(" + m.group(3).replaceAll(" \\w+(, )?", ",").replaceAll(",$", "") + ")"
                    + m.group(1));
        }
        return face;
    }

    private static void face() {
        Set<String> due = faceOfTheDocument();
        CHECK.due("methods of the document's face", due.size(), 37);
        Class<?> c = ChosenBackAtNine.class;
        for (Method m : c.getDeclaredMethods()) {
            if (!Modifier.isPrivate(m.getModifiers())) {
                CHECK.due(face(m) + " is public", m.getModifiers(), Modifier.PUBLIC);
                CHECK.due(face(m) + " is of the face", due.remove(face(m)) ? 1 : 0, 1);
            }
        }
        CHECK.due("missing " + due, due.size(), 0);
        Constructor<?>[] constructors = c.getDeclaredConstructors();
        CHECK.due("one constructor", constructors.length, 1);
        CHECK.due("a public one", constructors[0].getModifiers(), Modifier.PUBLIC);
        CHECK.due("without parameters", constructors[0].getParameterCount(), 0);
        CHECK.due("final", c.getModifiers(), Modifier.PUBLIC | Modifier.FINAL);
    }

    private static void constants() {
        Map<String, Integer> due = new TreeMap<>();
        Matcher m = CONSTANT.matcher(document);
        while (m.find()) {
            due.put(m.group(1), Integer.parseInt(m.group(2)));
        }
        CHECK.due("constants of the document's face", due.size(), 1);
        for (Field f : ChosenBackAtNine.class.getDeclaredFields()) {
            if (!Modifier.isPrivate(f.getModifiers())) {
                Integer value = due.remove(f.getName());
                CHECK.due(f.getName() + " is of the face", value == null ? 0 : 1, 1);
                CHECK.due(f.getName() + " is a constant", f.getModifiers(),
                        Modifier.PUBLIC | Modifier.STATIC | Modifier.FINAL);
                CHECK.due(f.getName(), valueOf(f), value == null ? 0 : value);
            }
        }
        CHECK.due("missing " + due, due.size(), 0);
    }

    private static int valueOf(Field constant) {
        try {
            return constant.getInt(null);
        } catch (ReflectiveOperationException e) {
            throw new IllegalStateException(e);
        }
    }

    private static void members(Class<?> c) {
        Set<String> names = new TreeSet<>();
        for (String face : faceOfTheDocument()) {
            names.add(face.substring(0, face.indexOf('(')));
        }
        for (Method m : c.getDeclaredMethods()) {
            String name = c.getSimpleName() + "." + m.getName();
            CHECK.due(name + " has seven parameters at most", m.getParameterCount() <= 7 ? 1 : 0, 1);
            boolean borrowed = !Modifier.isPublic(m.getModifiers()) && names.contains(m.getName());
            CHECK.due(name + " bears no public name", borrowed ? 1 : 0, 0);
        }
        int fields = 0;
        for (Field f : c.getDeclaredFields()) {
            boolean isStatic = Modifier.isStatic(f.getModifiers());
            fields += isStatic ? 0 : 1;
            CHECK.due(f + " is final if static", isStatic && !Modifier.isFinal(f.getModifiers()) ? 1 : 0, 0);
        }
        CHECK.due(c.getName() + " has twenty fields at most", fields <= 20 ? 1 : 0, 1);
    }

    private static void text(String source) {
        String code = source.replaceAll("(?s)/\\*.*?\\*/", "").replaceAll("//[^\n]*", "")
                .replaceAll("'[^'\n]*'", "' '").replaceAll("\"[^\"\n]*\"", "\"\"");
        for (String pattern : FORBIDDEN) {
            CHECK.due("forbidden: " + pattern, Pattern.compile(pattern).matcher(code).find() ? 1 : 0, 0);
        }
        CHECK.due("texts joined by +", Pattern.compile("\"\\s*\\+|\\+\\s*\"").matcher(code).find() ? 1 : 0, 0);
        lengths(code);
    }

    /** A method begins by a line that ends with { behind ) and ends by the } of the same indent. */
    private static void lengths(String code) {
        String[] lines = code.split("\n");
        Pattern head = Pattern.compile("^( {4}| {8})\\S[^=;]*\\w\\(.*\\) \\{$");
        for (int i = 0; i < lines.length; i++) {
            Matcher m = head.matcher(lines[i]);
            if (m.matches() && !lines[i].trim().matches("(if|for|while|switch|else|\\}).*")) {
                int end = i;
                while (end < lines.length && !lines[end].equals(m.group(1) + "}")) {
                    end++;
                }
                CHECK.due("sixty lines at most: " + lines[i].trim(), end - i + 1 <= 60 ? 1 : 0, 1);
            }
        }
    }
}
