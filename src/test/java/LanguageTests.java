import java.io.IOException;
import java.lang.reflect.Constructor;
import java.lang.reflect.Field;
import java.lang.reflect.Method;
import java.lang.reflect.Modifier;
import java.nio.charset.StandardCharsets;
import java.nio.file.Files;
import java.nio.file.Path;
import java.util.Set;
import java.util.TreeSet;
import java.util.regex.Matcher;
import java.util.regex.Pattern;

/** The face of the document, and those rules of LANGUAGE.md that a text or the class itself can show. */
public final class LanguageTests {
    private static final String[] FACE = {"int place()", "int road(int,int,int)", "int apart(int,int)", "int way(int,int)",
        "int begin(int,int)", "int end()", "int rule(int)", "int call(int)", "int back()", "int cruel()", "int ask(int)",
        "int stand()", "int told(int,int)", "int cost(int)", "int moves(int,int)", "int work(int,int)", "int least(int)",
        "int plan(int,int)", "int ratio()", "int worst(int,int)", "int book(int,int,int)", "int row(int,int,int)",
        "int put(int,int,int,int,long)", "long item(int,int,int,int)", "int roads(int)", "int calls(int,int)",
        "int about(int)", "long trace()", "int status()"};
    private static final String[] CONSTANTS = {"int BAD = -1", "int STATE = -2", "int FULL = -3", "int NONE = -9", "int NULL = -11",
        "int INDEX = -12", "int CAST = -13", "int SIZE = -15"};
    private static final String[] FORBIDDEN = {"throw", "throws", "try", "catch", "synchronized", "assert", "import", "package",
        "protected", "volatile", "native", "transient", "Object", "System", "Random", "Thread", "Float", "Double", "\\w+Exact",
        "hashCode", "toString", "->", "::"};
    private static final int LONGEST_METHOD = 60;
    private static final int MOST_FIELDS = 20;
    private static final int MOST_CLASSES = 12;

    private final Check check = new Check();

    private static String text(Class<?>[] parameters) {
        StringBuilder text = new StringBuilder();
        for (Class<?> p : parameters) text.append(text.length() == 0 ? "" : ",").append(p.getSimpleName());
        return text.toString();
    }

    private void face() throws IllegalAccessException {
        Class<?> c = LadderCalls.class;
        Set<String> face = new TreeSet<>();
        Set<String> names = new TreeSet<>();
        for (Method m : c.getDeclaredMethods()) {
            if (Modifier.isPrivate(m.getModifiers())) continue;
            face.add(m.getReturnType().getSimpleName() + " " + m.getName() + "(" + text(m.getParameterTypes()) + ")");
            names.add(m.getName());
            check.due("public " + m.getName(), Modifier.toString(m.getModifiers()), "public");
        }
        check.due("the methods", face.toString(), new TreeSet<>(Set.of(FACE)).toString());
        Set<String> constants = new TreeSet<>();
        for (Field f : c.getDeclaredFields()) {
            if (Modifier.isPrivate(f.getModifiers())) continue;
            constants.add(f.getType().getSimpleName() + " " + f.getName() + " = " + f.get(null));
            check.due("constant " + f.getName(), Modifier.toString(f.getModifiers()), "public static final");
        }
        check.due("the constants", constants.toString(), new TreeSet<>(Set.of(CONSTANTS)).toString());
        check.due("the class", Modifier.toString(c.getModifiers()), "public final");
        check.due("constructors", c.getDeclaredConstructors().length, 1);
        for (Constructor<?> k : c.getDeclaredConstructors()) check.due("the constructor", Modifier.toString(k.getModifiers()), "public");
        classes(c, names);
    }

    private void classes(Class<?> c, Set<String> names) {
        check.due("not too many classes", c.getDeclaredClasses().length < MOST_CLASSES ? 1 : 0, 1);
        for (Class<?> inner : c.getDeclaredClasses()) {
            check.due("static " + inner, Modifier.isStatic(inner.getModifiers()) ? 1 : 0, 1);
            members(inner, names);
        }
        members(c, names);
    }

    private void members(Class<?> c, Set<String> names) {
        int fields = 0;
        for (Field f : c.getDeclaredFields()) {
            if (Modifier.isStatic(f.getModifiers())) {
                check.due("final " + f, Modifier.isFinal(f.getModifiers()) ? 1 : 0, 1);
            } else {
                fields++;
            }
        }
        check.due("not too many fields of " + c, fields <= MOST_FIELDS ? 1 : 0, 1);
        for (Method m : c.getDeclaredMethods()) {
            check.due("at most seven parameters of " + m, m.getParameterCount() <= 7 ? 1 : 0, 1);
            boolean own = c == LadderCalls.class && Modifier.isPublic(m.getModifiers());
            check.due("a name of its own: " + m, own || !names.contains(m.getName()) ? 1 : 0, 1);
        }
    }

    private void words(String source) {
        String code = source.replaceAll("(?s)/\\*.*?\\*/", " ").replaceAll("//[^\n]*", " ");
        for (String word : FORBIDDEN) {
            String pattern = Character.isLetter(word.charAt(0)) || word.startsWith("\\") ? "\\b" + word + "\\b" : word;
            Matcher found = Pattern.compile(pattern).matcher(code);
            check.due("without " + word, found.find() ? 1 : 0, 0);
        }
        check.due("signs 1 to 127", source.chars().filter(s -> s > 127).count(), 0);
    }

    /** By the layout of the file: a method opens and closes with the same indent. */
    private void lengths(String source) {
        String[] lines = source.split("\n");
        for (int i = 0; i < lines.length; i++) {
            Matcher head = Pattern.compile("^( {4}| {8})[\\w\\[\\]]+( [\\w\\[\\]]+)* ?\\w*\\([^;]*\\{$").matcher(lines[i]);
            if (!head.find()) continue;
            int end = i;
            while (end < lines.length && !lines[end].equals(head.group(1) + "}")) end++;
            check.due("short: " + lines[i].trim(), end - i < LONGEST_METHOD ? 1 : 0, 1);
        }
    }

    public static void main(String[] args) throws IOException, IllegalAccessException {
        LanguageTests tests = new LanguageTests();
        String source = Files.readString(Path.of("src/main/java/LadderCalls.java"), StandardCharsets.ISO_8859_1);
        tests.face();
        tests.words(source);
        tests.lengths(source);
        tests.check.close();
    }
}
