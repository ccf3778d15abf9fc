import java.lang.reflect.Method;
import java.nio.file.Files;
import java.nio.file.Path;
import java.util.regex.Matcher;
import java.util.regex.Pattern;

/** The calls of README.md's blocks, one behind the other, answer what stands behind them. */
public final class ReadmeTests {
    private static final Pattern CALL = Pattern.compile("x\\.(\\w+)\\(([-0-9, ]*)\\); +// (-?\\d+).*");
    private static final Pattern TOLD = Pattern.compile("tell\\(\"(.*)\"\\);");
    private static final String MADE = "CrossroadsChoose x = new CrossroadsChoose();";
    private static final int FEWEST = 30;

    private static CrossroadsChoose x;

    public static void main(String[] args) throws ReflectiveOperationException, java.io.IOException {
        Due.says("README.md: each line of a block is known");
        boolean inBlock = false;
        int known = 0;
        for (String line : Files.readAllLines(Path.of("README.md"))) {
            boolean starts = line.equals("```java");
            if (inBlock && !line.startsWith("```")) {
                known++;
                run(line);
            }
            inBlock = starts || inBlock && !line.startsWith("```");
        }
        Due.due("lines: enough", known >= FEWEST ? 1 : 0, 1);
        Due.end("ReadmeTests");
    }

    private static void run(String line) throws ReflectiveOperationException {
        Matcher call = CALL.matcher(line), told = TOLD.matcher(line);
        if (line.equals(MADE)) {
            x = new CrossroadsChoose();
        } else if (told.matches()) {
            for (char c : told.group(1).toCharArray()) {
                Due.due("feed of " + line, x.feed(c) > 0 ? 1 : 0, 1);
            }
        } else if (call.matches()) {
            Due.due(line, answer(call.group(1), call.group(2)), Long.parseLong(call.group(3)));
        } else {
            Due.due("known: " + line, 0, 1);
        }
    }

    private static long answer(String name, String with) throws ReflectiveOperationException {
        String[] each = with.isBlank() ? new String[0] : with.split(", *");
        for (Method method : CrossroadsChoose.class.getMethods()) {
            if (!method.getName().equals(name) || method.getParameterCount() != each.length) {
                continue;
            }
            Object[] values = new Object[each.length];
            for (int i = 0; i < values.length; i++) {
                boolean isLong = method.getParameterTypes()[i] == long.class;
                values[i] = isLong ? (Object) Long.valueOf(each[i]) : (Object) Integer.valueOf(each[i]);
            }
            return ((Number) method.invoke(x, values)).longValue();
        }
        throw new NoSuchMethodException(name);
    }
}
