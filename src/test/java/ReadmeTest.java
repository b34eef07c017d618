import java.io.IOException;
import java.lang.reflect.Constructor;
import java.lang.reflect.Method;
import java.lang.reflect.Modifier;
import java.nio.file.Files;
import java.nio.file.Path;
import java.util.Arrays;
import java.util.List;
import java.util.regex.Matcher;
import java.util.regex.Pattern;

/** README.md: its examples answer what stands behind their calls, and it tells of each method of the face. */
public final class ReadmeTest {
    private static final Pattern CALL = Pattern.compile("rules\\.(\\w+)\\(([^)]*)\\);\\s*// (NONE|-?\\d+)\\b.*");
    private static final List<String> FACE = List.of("clear", "feed", "end", "judge", "count", "kind", "type",
        "cell", "meaning", "frame", "place");

    public static void main(String[] args) throws IOException, ReflectiveOperationException {
        List<String> lines = Files.readAllLines(Path.of("README.md"));
        examples(lines);
        table(lines);
        face();
        Check.finish("ReadmeTest");
    }

    private static void examples(List<String> lines) throws ReflectiveOperationException {
        TypeRules rules = new TypeRules();
        int calls = 0;
        for (String line : lines) {
            if (line.startsWith("rules.")) {
                Matcher call = CALL.matcher(line);
                Check.is("an answer stands behind " + line, call.matches() ? 1 : 0, 1);
                Check.is(line, answer(rules, call.group(1), call.group(2)), due(call.group(3)));
                calls++;
            }
        }
        Check.is("there are examples", calls > 10 ? 1 : 0, 1);
    }

    private static int answer(TypeRules rules, String name, String list) throws ReflectiveOperationException {
        String[] words = list.isEmpty() ? new String[0] : list.split(", ");
        Object[] numbers = new Object[words.length];
        Class<?>[] types = new Class<?>[words.length];
        for (int i = 0; i < words.length; i++) {
            numbers[i] = Integer.decode(words[i]);
            types[i] = int.class;
        }
        return (Integer) TypeRules.class.getMethod(name, types).invoke(rules, numbers);
    }

    private static int due(String word) {
        return word.equals("NONE") ? TypeRules.NONE : Integer.parseInt(word);
    }

    private static void table(List<String> lines) {
        for (String name : FACE) {
            long rows = lines.stream().filter(line -> line.startsWith("| `" + name + "(")).count();
            Check.is("rows of the table for " + name, rows, 1);
        }
    }

    /** The document's face, and no public member beside it. */
    private static void face() {
        for (String name : FACE) {
            long found = Arrays.stream(TypeRules.class.getDeclaredMethods())
                .filter(method -> method.getName().equals(name)).count();
            Check.is("methods with the name " + name, found, 1);
        }
        for (Method method : TypeRules.class.getDeclaredMethods()) {
            boolean told = FACE.contains(method.getName());
            int due = told ? Modifier.PUBLIC : Modifier.PRIVATE;
            Check.is(method.getName() + " is as open as it is told", method.getModifiers() & due, due);
            Check.is(method.getName() + " answers an int", !told || method.getReturnType() == int.class ? 1 : 0, 1);
        }
        for (Constructor<?> made : TypeRules.class.getDeclaredConstructors()) {
            Check.is("the constructor is public", made.getModifiers() & Modifier.PUBLIC, Modifier.PUBLIC);
            Check.is("what the constructor takes", made.getParameterCount(), 0);
        }
        Check.is("public fields", TypeRules.class.getFields().length, 1);
        Check.is("the class is public and final", TypeRules.class.getModifiers(), Modifier.PUBLIC | Modifier.FINAL);
    }
}
