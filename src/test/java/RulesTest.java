import java.io.DataInputStream;
import java.io.IOException;
import java.io.InputStream;
import java.io.PrintWriter;
import java.io.StringWriter;
import java.lang.reflect.Field;
import java.lang.reflect.Method;
import java.lang.reflect.Modifier;
import java.nio.charset.StandardCharsets;
import java.nio.file.Files;
import java.nio.file.Path;
import java.util.ArrayList;
import java.util.Arrays;
import java.util.List;
import java.util.Map;
import java.util.Set;
import java.util.TreeMap;
import java.util.TreeSet;
import java.util.regex.Matcher;
import java.util.regex.Pattern;
import java.util.spi.ToolProvider;

/** The rules of LANGUAGE.md, as far as the source's text and the compiled classes show them. */
public final class RulesTest {
    private static final Set<String> FACE = new TreeSet<>(List.of("boolean room(int)", "boolean person(int,int,int)",
            "boolean light(int,int,int)", "boolean attend(int,int,int,int)", "int lead(int,int,int,int)",
            "boolean hold(int,int,int,int,int)", "int thing(int)", "int move(int,int,int,int)", "int where(int,int)",
            "int saw(int,int)", "int at(int,int,int)", "int vouch(int,int,boolean)", "int gap(int,boolean,int)",
            "boolean image(int)", "boolean restore(int)", "int feed(int,int,int,int,int)", "int text(int)",
            "int fault(int)", "int way(int,int)", "int fits(int,int,int,int,int,int,int)",
            "int report(int,int,int,int,int,int,int)", "int right(int)", "int honest(int)", "int agree(int,int)",
            "int stories(int,boolean,int)", "int least(int,int)", "int pass(int,int,int,int,int,int)",
            "int culprits(int)", "int record(int,int)", "int control(int,int,int,int,int,int)",
            "int closes(int,int,int,int,int)", "int cheapest(int,int,int,int,int)", "int opens(int,int,int,int,int)",
            "int next(int,int)", "int trial(int,int)", "long luck(int)", "int chance(int,int)", "int ease(int,int)",
            "int fair(int,int,int,int,int,int,int)", "int status(int)", "int count(int)"));
    private static final Set<String> LIBRARY = Set.of("java/lang/Object.<init>", "java/lang/String.charAt",
            "java/lang/Math.max", "java/lang/Math.min", "java/lang/Math.abs", "java/lang/Integer.bitCount",
            "java/lang/Integer.numberOfTrailingZeros", "java/lang/System.arraycopy", "java/util/Arrays.fill");

    private static int wrong;

    public static void main(String[] args) throws Exception {
        Path path = Path.of(System.getProperty("raptable.source", "src/main/java/RapTable.java"));
        String source = Files.readString(path, StandardCharsets.ISO_8859_1);
        String code = withoutTexts(source);
        face();
        words(code);
        lengths(code);
        List<Class<?>> all = new ArrayList<>(List.of(RapTable.class));
        all.addAll(Arrays.asList(RapTable.class.getDeclaredClasses()));
        due(all.size() <= 12, "11: at most some twelve classes, not " + all.size());
        for (Class<?> each : all) {
            members(each);
            library(each);
        }
        depth();
        due(source.chars().allMatch(c -> c == 10 || c >= 32 && c < 127), "4: signs are 1 to 127");
        System.out.println(wrong == 0 ? "the rules are kept" : wrong + " rules are broken");
        if (wrong != 0) {
            System.exit(1);
        }
    }

    private static void due(boolean so, String rule) {
        if (!so) {
            wrong++;
            System.out.println("broken: rule " + rule);
        }
    }

    private static String withoutTexts(String source) {
        return source.replaceAll("(?s)/\\*.*?\\*/", "").replaceAll("//[^\n]*", "").replaceAll("\"[^\"]*\"", "\"\"")
                .replaceAll("'[^']'", "' '");
    }

    private static void face() {
        Set<String> found = new TreeSet<>();
        for (Method m : RapTable.class.getDeclaredMethods()) {
            String types = String.join(",", Arrays.stream(m.getParameterTypes()).map(Class::getName).toList());
            if (Modifier.isPublic(m.getModifiers())) {
                found.add(m.getReturnType().getName() + " " + m.getName() + "(" + types + ")");
            } else {
                due(Modifier.isPrivate(m.getModifiers()), "1: " + m.getName() + " is neither public nor private");
            }
        }
        due(found.equals(FACE), "1: the face is " + found);
        for (Field f : RapTable.class.getDeclaredFields()) {
            due(Modifier.isPrivate(f.getModifiers()) || f.getName().equals("NONE"), "1: " + f.getName() + " is seen");
        }
        int mods = RapTable.class.getModifiers();
        due(Modifier.isFinal(mods) && Modifier.isPublic(mods), "1: the class is public and final");
        due(RapTable.class.getDeclaredConstructors().length == 1, "1: one constructor");
    }

    private static void members(Class<?> each) {
        Set<String> names = new TreeSet<>();
        FACE.forEach(f -> names.add(f.replaceAll("^\\S+ |\\(.*", "")));
        int fields = 0;
        for (Field f : each.getDeclaredFields()) {
            int mods = f.getModifiers();
            due(!Modifier.isStatic(mods) || Modifier.isFinal(mods), "5: " + f.getName() + " is static and not final");
            fields += Modifier.isStatic(mods) ? 0 : 1;
        }
        due(fields <= 20, "11: " + each.getName() + " has " + fields + " fields");
        for (Method m : each.getDeclaredMethods()) {
            due(m.getParameterCount() <= 7, "11: " + m.getName() + " has too many parameters");
            due(!names.contains(m.getName()) || each == RapTable.class && Modifier.isPublic(m.getModifiers()),
                    "1: " + each.getName() + "." + m.getName() + " bears the name of a public one");
        }
        if (each != RapTable.class) {
            int mods = each.getModifiers();
            due(Modifier.isStatic(mods) && !Modifier.isPublic(mods) && !Modifier.isProtected(mods), "2: " + each.getName());
        }
    }

    private static void words(String code) {
        for (String word : new String[] {"package", "throw", "throws", "try", "catch", "finally", "synchronized",
            "assert", "native", "volatile", "strictfp", "protected", "float", "double", "Object", "Exception", "Error",
            "hashCode", "toString", "getClass", "lambda", "var", "yield", "sealed", "Thread"}) {
            due(!Pattern.compile("\\b" + word + "\\b").matcher(code).find(), "6 and others: the word " + word);
        }
        for (String sign : new String[] {"->", "::", "@", "...", "\" +", "+ \"", "static {"}) {
            due(!code.contains(sign), "2, 5, 10: the sign " + sign);
        }
    }

    private static void lengths(String code) {
        Matcher m = Pattern.compile("\n( {4}| {8})(?:\\w[\\w\\[\\] ]*) (\\w+)\\([^;]*?\\) \\{\n(.*?)\n\\1\\}", Pattern.DOTALL)
                .matcher(code);
        int methods = 0;
        while (m.find()) {
            methods++;
            int lines = m.group(3).split("\n").length + 2;
            due(lines <= 60, "11: " + m.group(2) + " has " + lines + " lines");
        }
        due(methods > 100, "the methods are found, not only " + methods);
    }

    /** How deep calls go, by what javap tells of the compiled classes. */
    private static void depth() {
        StringWriter told = new StringWriter();
        PrintWriter out = new PrintWriter(told);
        String path = System.getProperty("java.class.path");
        List<String> call = new ArrayList<>(List.of("-c", "-p", "-cp", path, "RapTable"));
        for (Class<?> each : RapTable.class.getDeclaredClasses()) {
            call.add(each.getName());
        }
        ToolProvider.findFirst("javap").orElseThrow().run(out, out, call.toArray(new String[0]));
        Map<String, Set<String>> calls = new TreeMap<>();
        String owner = "";
        String method = "";
        for (String line : told.toString().split("\n")) {
            Matcher head = Pattern.compile("^[a-z ]*class (\\S+) \\{").matcher(line);
            Matcher name = Pattern.compile("^  [^(]*?(\\S+)\\(.*\\);$").matcher(line);
            Matcher inner = Pattern.compile("// Method (\\S+?):").matcher(line);
            if (head.find()) {
                owner = head.group(1);
            } else if (name.find()) {
                method = owner + "." + (name.group(1).equals(owner) ? "<init>" : name.group(1));
                calls.put(method, new TreeSet<>());
            } else if (inner.find() && !inner.group(1).startsWith("java/")) {
                String to = inner.group(1).replace("\"", "");
                calls.get(method).add(to.contains(".") ? to : owner + "." + to);
            }
        }
        due(calls.size() > 100, "the calls are found, not only " + calls.size());
        for (String each : calls.keySet()) {
            String chain = deepest(each, calls, 1);
            int deep = chain.split(" ").length;
            due(deep <= 8, "11: " + deep + " deep: " + chain);
        }
    }

    private static String deepest(String method, Map<String, Set<String>> calls, int depth) {
        String most = "";
        for (String to : calls.getOrDefault(method, Set.of())) {
            String chain = depth > 30 ? "" : deepest(to, calls, depth + 1);
            most = chain.split(" ").length > most.split(" ").length || most.isEmpty() ? chain : most;
        }
        return most.isEmpty() ? method : method + " " + most;
    }

    /** Every method of the library that the compiled class names. */
    private static void library(Class<?> each) throws IOException {
        try (InputStream in = each.getResourceAsStream(each.getName() + ".class");
                DataInputStream data = new DataInputStream(in)) {
            data.readInt();
            data.readInt();
            int size = data.readUnsignedShort();
            int[] tag = new int[size];
            int[] one = new int[size];
            int[] two = new int[size];
            String[] text = new String[size];
            for (int i = 1; i < size; i++) {
                tag[i] = data.readUnsignedByte();
                switch (tag[i]) {
                    case 1 -> text[i] = data.readUTF();
                    case 7, 8, 16, 19, 20 -> one[i] = data.readUnsignedShort();
                    case 9, 10, 11, 12, 17, 18 -> {
                        one[i] = data.readUnsignedShort();
                        two[i] = data.readUnsignedShort();
                    }
                    case 3, 4 -> data.readInt();
                    case 5, 6 -> {
                        data.readLong();
                        i++;
                    }
                    default -> {
                        data.readUnsignedByte();
                        data.readUnsignedShort();
                    }
                }
            }
            for (int i = 1; i < size; i++) {
                if (tag[i] == 10 || tag[i] == 11) {
                    String owner = text[one[one[i]]];
                    String name = owner + "." + text[one[two[i]]];
                    due(owner.startsWith("RapTable") || LIBRARY.contains(name), "4: " + name);
                }
                due(tag[i] != 18, "2, 10: a call that is made at run time");
            }
        }
    }
}
