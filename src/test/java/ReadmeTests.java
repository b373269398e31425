import java.io.File;
import java.lang.reflect.InvocationTargetException;
import java.lang.reflect.Method;
import java.nio.charset.StandardCharsets;
import java.nio.file.Files;
import java.util.List;
import java.util.NoSuchElementException;
import java.util.Set;
import java.util.TreeSet;
import java.util.regex.Matcher;
import java.util.regex.Pattern;

/** Makes each call of README.md's examples: its answer is the one that stands behind //. */
public final class ReadmeTests {
    private static final Due DUE = new Due();
    private static final Pattern CALL = Pattern.compile("x\\.(\\w+)\\(([^()]*)\\);\\s*// (-?\\d+|true|false|throws)\\b.*");
    private static final Pattern PUT = Pattern.compile("put\\(x, \"(.*)\"\\);.*");

    static void put(OtherSelves x, String signs) {
        for (int at = 0; at < signs.length(); at += 20) {
            int[] five = new int[5];
            for (int i = at; i < at + 20 && i < signs.length(); i++) {
                five[(i - at) / 4] |= signs.charAt(i) << 24 - 8 * ((i - at) % 4);
            }
            x.feed(five[0], five[1], five[2], five[3], five[4]);
        }
    }

    private static Object argument(Class<?> type, String text) {
        if (type == boolean.class) {
            return text.equals("true");
        }
        String plain = text.replace("OtherSelves.NONE", "-1").replace("L", "");
        return type == long.class ? (Object) Long.parseLong(plain) : (Object) (int) Long.decode(plain).longValue();
    }

    private static String answer(OtherSelves x, String name, String arguments) throws Exception {
        String[] parts = arguments.isEmpty() ? new String[0] : arguments.split(", *");
        for (Method method : OtherSelves.class.getMethods()) {
            if (method.getName().equals(name) && method.getParameterCount() == parts.length) {
                Object[] values = new Object[parts.length];
                for (int i = 0; i < values.length; i++) {
                    values[i] = argument(method.getParameterTypes()[i], parts[i]);
                }
                try {
                    return String.valueOf(method.invoke(x, values));
                } catch (InvocationTargetException e) {
                    return e.getCause() instanceof NoSuchElementException ? "throws" : "threw " + e.getCause();
                }
            }
        }
        return "no such call";
    }

    private static void examples(List<String> lines, Set<String> called) throws Exception {
        OtherSelves x = null;
        for (String line : lines) {
            Matcher call = CALL.matcher(line);
            Matcher put = PUT.matcher(line);
            if (line.startsWith("OtherSelves x = new OtherSelves();")) {
                x = new OtherSelves();
            } else if (put.matches()) {
                put(x, put.group(1));
            } else if (call.matches()) {
                String got = answer(x, call.group(1), call.group(2));
                DUE.due(line + " answered " + got, got.equals(call.group(3)), true);
                called.add(call.group(1));
            } else {
                DUE.due("an example that can't be read: " + line, line.startsWith("x."), false);
            }
        }
    }

    /** The helper in README.md is the one above. */
    private static void helper(String readme) throws Exception {
        String source = text("src/test/java/ReadmeTests.java");
        int from = readme.indexOf("static void put(");
        int to = readme.indexOf("```", Math.max(from, 0));
        DUE.due("README.md has the helper", from >= 0 && to > from, true);
        if (from >= 0 && to > from) {
            String indented = "    " + readme.substring(from, to).trim().replace("\n", "\n    ");
            DUE.due("the helper of README.md is the one tried", source.contains(indented), true);
        }
    }

    private static String text(String file) throws Exception {
        return new String(Files.readAllBytes(new File(file).toPath()), StandardCharsets.UTF_8);
    }

    public static void main(String[] args) throws Exception {
        String readme = text("README.md");
        Set<String> called = new TreeSet<>();
        examples(List.of(readme.split("\n")), called);
        helper(readme);
        for (Method method : OtherSelves.class.getDeclaredMethods()) {
            boolean isPublic = java.lang.reflect.Modifier.isPublic(method.getModifiers());
            DUE.due("README.md tells of " + method.getName(), !isPublic || readme.contains("`" + method.getName()), true);
        }
        for (File test : new File("src/test/java").listFiles()) {
            String name = test.getName().replace(".java", "");
            DUE.due("README.md tells of " + name, readme.contains("`" + name + "`"), true);
        }
        DUE.due("examples of calls: " + called, called.size() >= 20, true);
        DUE.close("ReadmeTests");
    }
}
