import java.io.IOException;
import java.lang.reflect.Method;
import java.lang.reflect.Modifier;
import java.nio.file.Files;
import java.nio.file.Path;
import java.util.ArrayList;
import java.util.List;
import java.util.Set;
import java.util.TreeSet;
import java.util.regex.Matcher;
import java.util.regex.Pattern;

/** The calls that README.md shows answer what README.md says, and every method is shown. Runs in the project's directory. */
final class ReadmeTest {
    private static final Pattern WORD = Pattern.compile("int w = (0x\\w+);.*");
    private static final Pattern CALL = Pattern.compile("forms\\.(\\w+)\\(([^)]*)\\);\\s*// ([^,\\s]+).*");

    public static void main(String[] args) throws IOException, ReflectiveOperationException {
        Checks checks = new Checks("ReadmeTest");
        WordForms forms = new WordForms();
        Set<String> shown = new TreeSet<>();
        String w = "";
        for (String line : Files.readAllLines(Path.of("README.md"))) {
            Matcher word = WORD.matcher(line);
            Matcher call = CALL.matcher(line);
            if (word.matches()) {
                w = word.group(1);
            } else if (call.matches()) {
                shown.add(call.group(1));
                check(checks, forms, call, w);
            } else {
                checks.due("can be read: " + line, line.startsWith("forms."), false);
            }
        }
        for (Method method : WordForms.class.getDeclaredMethods()) {
            boolean inside = Modifier.isPrivate(method.getModifiers());
            checks.due("README.md shows " + method.getName(), inside || shown.contains(method.getName()), true);
        }
        checks.end();
    }

    private static void check(Checks checks, WordForms forms, Matcher call, String w) throws ReflectiveOperationException {
        Method method = methodNamed(call.group(1));
        Class<?>[] types = method.getParameterTypes();
        List<Object> values = new ArrayList<>();
        for (String text : call.group(2).split(",")) {
            String given = text.trim();
            values.add(valueOf(given.equals("w") ? w : given, types[values.size()]));
        }
        Object got = method.invoke(forms, values.toArray());
        Object due = valueOf(call.group(3), method.getReturnType());
        checks.due(call.group() + " (answered " + got + ")", got.equals(due), true);
    }

    private static Method methodNamed(String name) throws NoSuchMethodException {
        for (Method method : WordForms.class.getMethods()) {
            if (method.getName().equals(name)) {
                return method;
            }
        }
        throw new NoSuchMethodException(name);
    }

    private static Object valueOf(String text, Class<?> type) {
        if (type == boolean.class) {
            return Boolean.valueOf(text);
        }
        String digits = text.endsWith("L") ? text.substring(0, text.length() - 1) : text;
        long value = Long.decode(digits);
        if (type == int.class) {
            return (int) value;
        }
        return value;
    }
}
