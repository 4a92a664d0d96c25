import java.io.IOException;
import java.lang.reflect.Constructor;
import java.lang.reflect.Field;
import java.lang.reflect.Method;
import java.lang.reflect.Modifier;
import java.nio.file.Files;
import java.nio.file.Path;
import java.util.Set;
import java.util.TreeSet;
import java.util.regex.Matcher;
import java.util.regex.Pattern;

/** The face of the document, and those rules of LANGUAGE.md that can be seen from the class and its text. */
public final class LanguageTest {
    private static final Check CHECK = new Check("LanguageTest");
    private static final String FACE = "act(int,int,int)int age(int,int)int ahead(int,int,int)int by(int,int)int "
            + "child(int,int,int,int,int)int childOf(int,int)int choose(int)int chooses(int,int)int "
            + "copy(int,int,int,int,int)int drawn(int)int element(int,int)long fault()int favourite(int)int "
            + "flood(int)int gift(int,int,int)int grown(int,int,int,int)int grownOf(int,int)int holds(int)int "
            + "image()int judge(int,int)int ninth(int)int parish(int)int picks(int)int pull(int,int,int)int "
            + "restore()int row(int,int,int)int says(int,int)int seed(int)int set(int,int,long)int "
            + "show(int,int)int status(int)int tastes(int,int,int,int)int trace(int)int trades(int)int "
            + "two(int,int,int,int)int woo(int,int,int)int years(int)int";
    private static final String[] FORBIDDEN = {
        "\\b(throws?|try|catch|finally|synchronized|assert|import|package|volatile|transient|native|var)\\b",
        "\\b(Object|Exception|Error|Thread|getClass)\\b",
        "\\bSystem\\.(?!arraycopy)", "Exact\\s*\\(", "->", "::", "@"};

    public static void main(String[] args) throws IOException {
        face();
        Class<?>[] inside = ChosenBackAtNine.class.getDeclaredClasses();
        CHECK.due("classes, twelve at most", inside.length <= 11 ? 1 : 0, 1);
        for (Class<?> c : inside) {
            CHECK.due(c.getName() + " is private and static",
                    c.getModifiers() & (Modifier.STATIC | Modifier.PRIVATE), Modifier.STATIC | Modifier.PRIVATE);
            members(c);
        }
        members(ChosenBackAtNine.class);
        text(Files.readString(Path.of(args[0], "src/main/java/ChosenBackAtNine.java")));
        CHECK.end();
    }

    private static String face(Method m) {
        StringBuilder s = new StringBuilder(m.getName()).append("(");
        for (Class<?> type : m.getParameterTypes()) {
            s.append(s.charAt(s.length() - 1) == '(' ? "" : ",").append(type.getSimpleName());
        }
        return s.append(")").append(m.getReturnType().getSimpleName()).toString();
    }

    private static void face() {
        Set<String> due = new TreeSet<>(Set.of(FACE.split(" ")));
        Class<?> c = ChosenBackAtNine.class;
        for (Method m : c.getDeclaredMethods()) {
            if (!Modifier.isPrivate(m.getModifiers())) {
                CHECK.due(face(m) + " is public", m.getModifiers(), Modifier.PUBLIC);
                CHECK.due(face(m) + " is of the face", due.remove(face(m)) ? 1 : 0, 1);
            }
        }
        CHECK.due("missing " + due, due.size(), 0);
        for (Field f : c.getDeclaredFields()) {
            if (!Modifier.isPrivate(f.getModifiers())) {
                CHECK.due(f.getName() + " is NONE", f.getName().equals("NONE") ? f.getModifiers() : 0,
                        Modifier.PUBLIC | Modifier.STATIC | Modifier.FINAL);
            }
        }
        Constructor<?>[] constructors = c.getDeclaredConstructors();
        CHECK.due("one constructor", constructors.length, 1);
        CHECK.due("a public one", constructors[0].getModifiers(), Modifier.PUBLIC);
        CHECK.due("final", c.getModifiers(), Modifier.PUBLIC | Modifier.FINAL);
    }

    private static void members(Class<?> c) {
        Set<String> names = new TreeSet<>();
        for (String face : FACE.split(" ")) {
            names.add(face.substring(0, face.indexOf('(')));
        }
        for (Method m : c.getDeclaredMethods()) {
            String name = c.getSimpleName() + "." + m.getName();
            CHECK.due(name + " has seven parameters at most", m.getParameterCount() <= 7 ? 1 : 0, 1);
            boolean borrowed = !Modifier.isPublic(m.getModifiers()) && names.contains(m.getName());
            CHECK.due(name + " bears no public name", borrowed ? 1 : 0, 0);
        }
        int fields = 0;
        for (Field f : c.getDeclaredFields()) {
            boolean isStatic = Modifier.isStatic(f.getModifiers());
            fields += isStatic ? 0 : 1;
            CHECK.due(f + " is final if static", isStatic && !Modifier.isFinal(f.getModifiers()) ? 1 : 0, 0);
        }
        CHECK.due(c.getName() + " has twenty fields at most", fields <= 20 ? 1 : 0, 1);
    }

    private static void text(String source) {
        String code = source.replaceAll("(?s)/\\*.*?\\*/", "").replaceAll("//[^\n]*", "")
                .replaceAll("'[^'\n]*'", "' '").replaceAll("\"[^\"\n]*\"", "\"\"");
        for (String pattern : FORBIDDEN) {
            CHECK.due("forbidden: " + pattern, Pattern.compile(pattern).matcher(code).find() ? 1 : 0, 0);
        }
        CHECK.due("texts joined by +", Pattern.compile("\"\\s*\\+|\\+\\s*\"").matcher(code).find() ? 1 : 0, 0);
        lengths(code);
    }

    /** A method begins by a line that ends with { behind ) and ends by the } of the same indent. */
    private static void lengths(String code) {
        String[] lines = code.split("\n");
        Pattern head = Pattern.compile("^( {4}| {8})\\S[^=;]*\\w\\(.*\\) \\{$");
        for (int i = 0; i < lines.length; i++) {
            Matcher m = head.matcher(lines[i]);
            if (m.matches() && !lines[i].trim().matches("(if|for|while|switch|else|\\}).*")) {
                int end = i;
                while (end < lines.length && !lines[end].equals(m.group(1) + "}")) {
                    end++;
                }
                CHECK.due("sixty lines at most: " + lines[i].trim(), end - i + 1 <= 60 ? 1 : 0, 1);
            }
        }
    }
}
