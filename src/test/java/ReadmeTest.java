import java.io.IOException;
import java.lang.reflect.Method;
import java.lang.reflect.Modifier;
import java.nio.file.Files;
import java.nio.file.Path;
import java.util.Set;
import java.util.TreeSet;
import java.util.regex.Matcher;
import java.util.regex.Pattern;

/** The calls of README.md answer what is said behind them, and it tells of each method of the face. */
public final class ReadmeTest {
    private static final Pattern MADE = Pattern.compile("DotLines x = new DotLines\\((\\d+)\\);.*");
    private static final Pattern CALL = Pattern.compile("x\\.(\\w+)\\((.*?)\\); +// ([^: ]+)(:.*)?");

    private static int wrong = 0;

    private static void due(String what, String got, String want) {
        if (!got.equals(want)) {
            wrong++;
            System.out.println(what + " answered " + got + ", due is " + want);
        }
    }

    private static Object value(String text, Class<?> type) {
        return type == boolean.class ? (Object) Boolean.valueOf(text)
            : type == long.class ? (Object) Long.valueOf(text) : (Object) Integer.valueOf(text);
    }

    private static Object answer(DotLines x, String name, String given) throws ReflectiveOperationException {
        String[] texts = given.isEmpty() ? new String[0] : given.split(", ");
        for (Method m : DotLines.class.getMethods()) {
            if (m.getName().equals(name) && m.getParameterCount() == texts.length) {
                Object[] values = new Object[texts.length];
                for (int i = 0; i < texts.length; i++) {
                    values[i] = value(texts[i], m.getParameterTypes()[i]);
                }
                return m.invoke(x, values);
            }
        }
        return "no method " + name;
    }

    /** How many calls there were. */
    private static int runCalls(String block) throws ReflectiveOperationException {
        DotLines x = null;
        int calls = 0;
        for (String line : block.split("\n")) {
            Matcher made = MADE.matcher(line);
            Matcher call = CALL.matcher(line);
            if (made.matches()) {
                x = new DotLines(Integer.parseInt(made.group(1)));
            } else if (call.matches()) {
                Object got = answer(x, call.group(1), call.group(2));
                String want = call.group(3);
                boolean hex = want.startsWith("0x");
                due(line, hex && got instanceof Long ? "0x" + Long.toHexString((Long) got) : String.valueOf(got), want);
                calls++;
            } else {
                due(line, "a line that is no call with its answer", "");
            }
        }
        return calls;
    }

    public static void main(String[] args) throws IOException, ReflectiveOperationException {
        String text = Files.readString(Path.of("README.md"));
        int from = text.indexOf("```java\n") + "```java\n".length();
        String block = text.substring(from, text.indexOf("```\n", from)).replace("\n\n", "\n");
        int calls = runCalls(block);
        Set<String> missing = new TreeSet<>();
        for (Method m : DotLines.class.getDeclaredMethods()) {
            boolean isPublic = Modifier.isPublic(m.getModifiers());
            if (isPublic && !text.contains("| `" + m.getName() + "(")) {
                missing.add(m.getName());
            }
        }
        due("methods that README.md does not tell of", missing.toString(), "[]");
        System.out.println(calls + " calls of README.md, " + wrong + " answers are not as due");
        if (wrong != 0 || calls == 0) {
            System.exit(1);
        }
    }
}
