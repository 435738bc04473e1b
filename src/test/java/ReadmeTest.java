import java.io.IOException;
import java.lang.reflect.InvocationTargetException;
import java.lang.reflect.Method;
import java.lang.reflect.Modifier;
import java.nio.file.Files;
import java.nio.file.Path;
import java.util.List;
import java.util.regex.Matcher;
import java.util.regex.Pattern;

/** Goes through README.md's example: each call must answer what stands behind it; its table must have every call. */
public final class ReadmeTest {
    private static final Check CHECK = new Check();
    private static final Pattern CALL = Pattern.compile("desk\\.(\\w+)\\(([-0-9, ]*)\\); +// (-?\\d+)\\b.*");
    private static final Pattern TELL = Pattern.compile("tell\\(desk, \"([^\"]*)\"\\);");

    private ReadmeTest() { }

    public static void main(String[] args) throws IOException, ReflectiveOperationException {
        Path root = Path.of(System.getProperty("project.root", "."));
        List<String> lines = Files.readAllLines(root.resolve("README.md"));
        example(lines);
        table(lines);
        CHECK.close();
    }

    private static void example(List<String> lines) throws ReflectiveOperationException {
        CHECK.part("README's example");
        int start = lines.indexOf("NoticeDesk desk = new NoticeDesk();");
        CHECK.due("there is one", start >= 0, true);
        NoticeDesk desk = new NoticeDesk();
        for (int i = start + 1; start >= 0 && !lines.get(i).equals("```"); i++) {
            Matcher call = CALL.matcher(lines.get(i));
            Matcher tell = TELL.matcher(lines.get(i));
            if (call.matches()) {
                CHECK.due(lines.get(i), answer(desk, call.group(1), call.group(2)), Integer.parseInt(call.group(3)));
            } else if (tell.matches()) {
                Check.feed(desk, tell.group(1));
            } else {
                CHECK.due("'" + lines.get(i) + "' is a call with its answer", lines.get(i).isEmpty(), true);
            }
        }
    }

    private static int answer(NoticeDesk desk, String name, String arguments) throws ReflectiveOperationException {
        String[] texts = arguments.isEmpty() ? new String[0] : arguments.split(", ");
        Object[] numbers = new Object[texts.length];
        for (int i = 0; i < texts.length; i++) {
            numbers[i] = Integer.valueOf(texts[i]);
        }
        for (Method m : NoticeDesk.class.getMethods()) {
            if (m.getName().equals(name) && m.getParameterCount() == numbers.length) {
                try {
                    return (Integer) m.invoke(desk, numbers);
                } catch (InvocationTargetException thrown) {
                    throw new IllegalStateException(name + " throws", thrown.getCause());
                }
            }
        }
        throw new IllegalStateException("no call " + name);
    }

    private static void table(List<String> lines) {
        CHECK.part("README's table");
        for (Method m : NoticeDesk.class.getDeclaredMethods()) {
            if (Modifier.isPublic(m.getModifiers())) {
                boolean told = lines.stream().anyMatch(s -> s.startsWith("|") && s.contains("`" + m.getName() + "`"));
                CHECK.due(m.getName() + " stands in it", told, true);
            }
        }
    }
}
