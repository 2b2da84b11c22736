import java.io.IOException;
import java.lang.reflect.Method;
import java.nio.file.Files;
import java.nio.file.Path;
import java.util.Arrays;
import java.util.List;
import java.util.regex.Matcher;
import java.util.regex.Pattern;
import java.util.stream.Collectors;

/** What README.md shows is so: each call in its examples answers what stands behind it, and its table has each call. */
public final class ReadmeTest {
    private static final Pattern CALL = Pattern.compile(" *shop\\.(\\w+)\\((.*?)\\);(?: *// (-?\\w+).*)?");
    private static final Pattern TEXT = Pattern.compile("for \\(char letter : \"(.*)\"\\.toCharArray\\(\\)\\) \\{");
    private static final Pattern ROW = Pattern.compile("\\| `(\\w+)\\((.*)\\)` \\|.*");

    private static int examples = 0;
    private static int wrong = 0;

    private static void fail(String what) {
        wrong++;
        System.out.println("README.md: " + what);
    }

    private static List<Method> face() {
        return Arrays.stream(SleepersShop.class.getDeclaredMethods())
            .filter(m -> java.lang.reflect.Modifier.isPublic(m.getModifiers())).collect(Collectors.toList());
    }

    private static int argumentsIn(String told) {
        return told.isEmpty() ? 0 : told.split(", ").length;
    }

    private static Object argument(String told, Class<?> type) {
        if (type == boolean.class) {
            return Boolean.valueOf(told);
        }
        return Integer.valueOf(told);
    }

    private static int number(String told) throws ReflectiveOperationException {
        return told.matches("-?\\d+") ? Integer.parseInt(told) : SleepersShop.class.getField(told).getInt(null);
    }

    private static void call(SleepersShop shop, String line, Matcher told) throws ReflectiveOperationException {
        Method method = face().stream().filter(m -> m.getName().equals(told.group(1))
            && m.getParameterCount() == argumentsIn(told.group(2))).findFirst().orElse(null);
        if (method == null || told.group(3) == null) {
            fail("no such call, or no answer told: " + line);
            return;
        }
        Object[] arguments = new Object[method.getParameterCount()];
        for (int i = 0; i < arguments.length; i++) {
            arguments[i] = argument(told.group(2).split(", ")[i], method.getParameterTypes()[i]);
        }
        Object got = method.invoke(shop, arguments);
        examples++;
        if (!got.equals(number(told.group(3)))) {
            fail(line + ": it answered " + got);
        }
    }

    /** The examples, line by line: a text is written as its loop would write it. */
    private static void examples(List<String> lines) throws ReflectiveOperationException {
        SleepersShop shop = null;
        boolean inside = false;
        for (String line : lines) {
            Matcher call = CALL.matcher(line);
            Matcher text = TEXT.matcher(line);
            if (line.startsWith("```")) {
                inside = line.equals("```java");
            } else if (!inside || line.equals("    shop.write(letter);") || line.equals("}")) {
                continue;
            } else if (line.startsWith("SleepersShop shop = new SleepersShop();")) {
                shop = new SleepersShop();
            } else if (text.matches()) {
                text.group(1).chars().forEach(shop::write);
            } else if (call.matches()) {
                call(shop, line, call);
            } else {
                fail("a line of an example that this test can't read: " + line);
            }
        }
    }

    private static void table(List<String> lines) {
        for (Method method : face()) {
            long rows = lines.stream().map(ROW::matcher).filter(m -> m.matches() && m.group(1).equals(method.getName())
                && argumentsIn(m.group(2)) == method.getParameterCount()).count();
            if (rows != 1) {
                fail(rows + " rows for " + method.getName());
            }
        }
    }

    public static void main(String[] args) throws IOException, ReflectiveOperationException {
        List<String> lines = Files.readAllLines(Path.of("README.md"));
        examples(lines);
        table(lines);
        if (examples == 0) {
            fail("no examples");
        }
        System.out.println("README.md: " + examples + " examples, " + wrong + " not as due");
        if (wrong != 0) {
            System.exit(1);
        }
    }
}
