import java.io.IOException;
import java.lang.reflect.Method;
import java.nio.charset.StandardCharsets;
import java.nio.file.Files;
import java.nio.file.Path;
import java.util.Set;
import java.util.TreeSet;
import java.util.regex.Matcher;
import java.util.regex.Pattern;

/** README.md shows every method, and each call there answers what stands behind it. */
public final class ReadmeTests {
    private static final String OPENS = "```java", CLOSES = "```";
    private static final String MAKES = "LadderCalls x = new LadderCalls();";
    private static final Pattern CALL = Pattern.compile("x\\.(\\w+)\\(([^()]*)\\);\\s+// (-?\\d+|[A-Z]+)(: .+)?");

    private final Check check = new Check();
    private final Set<String> shown = new TreeSet<>();
    private Object program = null;
    private Object model = null;

    private void read(Path page) throws IOException, ReflectiveOperationException {
        boolean inside = false;
        for (String line : Files.readAllLines(page, StandardCharsets.UTF_8)) {
            if (line.equals(OPENS)) {
                inside = true;
            } else if (line.equals(CLOSES)) {
                inside = false;
            } else if (inside) {
                show(line);
            }
        }
    }

    private void show(String line) throws ReflectiveOperationException {
        if (line.equals(MAKES)) {
            program = new LadderCalls();
            model = new SlowLadders();
            return;
        }
        Matcher call = CALL.matcher(line);
        boolean isCall = call.matches();
        check.due("a call and its answer: " + line, isCall && program != null ? 1 : 0, 1);
        if (!isCall || program == null) return;
        shown.add(call.group(1));
        long due = due(call.group(3));
        check.due("README.md: " + line + " the program", answer(program, call.group(1), call.group(2)), due);
        check.due("README.md: " + line + " the model", answer(model, call.group(1), call.group(2)), due);
    }

    private static long due(String told) throws ReflectiveOperationException {
        if (!Character.isLetter(told.charAt(0))) return Long.parseLong(told);
        return LadderCalls.class.getField(told).getInt(null);
    }

    private static long answer(Object asked, String name, String numbers) throws ReflectiveOperationException {
        String[] texts = numbers.isEmpty() ? new String[0] : numbers.split(", ");
        Object[] values = new Object[texts.length];
        Class<?>[] types = new Class<?>[texts.length];
        for (int i = 0; i < texts.length; i++) {
            boolean isLong = texts[i].endsWith("L");
            types[i] = isLong ? long.class : int.class;
            if (isLong) {
                values[i] = Long.parseLong(texts[i].substring(0, texts[i].length() - 1));
            } else {
                values[i] = Integer.parseInt(texts[i]);
            }
        }
        Method method = asked.getClass().getDeclaredMethod(name, types);
        return ((Number) method.invoke(asked, values)).longValue();
    }

    private void showsAll() {
        Set<String> face = new TreeSet<>();
        for (Method m : LadderCalls.class.getMethods()) {
            if (m.getDeclaringClass() == LadderCalls.class) face.add(m.getName());
        }
        check.due("the methods that README.md shows", shown.toString(), face.toString());
    }

    public static void main(String[] args) throws IOException, ReflectiveOperationException {
        ReadmeTests tests = new ReadmeTests();
        tests.read(Path.of("README.md"));
        tests.showsAll();
        tests.check.close();
    }
}
