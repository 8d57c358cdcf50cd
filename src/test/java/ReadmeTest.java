import java.lang.reflect.InvocationTargetException;
import java.lang.reflect.Method;
import java.nio.file.Files;
import java.nio.file.Path;
import java.util.List;
import java.util.regex.Matcher;
import java.util.regex.Pattern;

/** Makes the calls of the example in README.md, line by line, and looks whether each answers what stands behind it. */
public final class ReadmeTest {
    private static final Pattern CALL = Pattern.compile("table\\.(\\w+)\\((.*)\\); +// (true|false|-?\\d+):? .*");

    public static void main(String[] args) throws Exception {
        RapTable table = new RapTable();
        int calls = 0;
        int wrong = 0;
        for (String line : example()) {
            Matcher m = CALL.matcher(line);
            if (m.matches()) {
                calls++;
                String got = answer(table, m.group(1), m.group(2).split(", *"));
                if (!got.equals(m.group(3))) {
                    wrong++;
                    System.out.println(line.trim() + " (it answered " + got + ")");
                }
            } else if (line.contains("table.")) {
                wrong++;
                System.out.println("not understood: " + line);
            }
        }
        wrong += calls < 30 ? 1 : 0;
        System.out.println(wrong == 0 ? "README.md is right in " + calls + " calls" : "README.md isn't right");
        if (wrong != 0) {
            System.exit(1);
        }
    }

    private static List<String> example() throws Exception {
        String page = Files.readString(Path.of("README.md"));
        int from = page.indexOf("```java");
        return page.substring(from, page.indexOf("```", from + 3)).lines().toList();
    }

    private static String answer(RapTable table, String name, String[] told) throws Exception {
        for (Method m : RapTable.class.getMethods()) {
            if (m.getName().equals(name) && m.getParameterCount() == told.length) {
                Object[] values = new Object[told.length];
                for (int i = 0; i < told.length; i++) {
                    values[i] = m.getParameterTypes()[i] == boolean.class ? (Object) Boolean.valueOf(told[i])
                            : (Object) Integer.decode(told[i]);
                }
                try {
                    return String.valueOf(m.invoke(table, values));
                } catch (InvocationTargetException e) {
                    return String.valueOf(e.getCause());
                }
            }
        }
        return "nothing: there is no such call";
    }
}
