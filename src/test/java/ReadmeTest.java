import java.lang.reflect.Method;
import java.lang.reflect.Modifier;
import java.nio.file.Files;
import java.nio.file.Path;
import java.util.Map;
import java.util.TreeMap;
import java.util.regex.Matcher;
import java.util.regex.Pattern;

/** What README.md tells of the class is so. Its first argument: the path of the source, four levels below README.md. */
public final class ReadmeTest {
    private static final Pattern CALL = Pattern.compile("x\\.(\\w+)\\(([-0-9, ]*)\\);\\s*// (-?[0-9]+): .*");
    private static final Map<String, Method> CALLS = new TreeMap<>();
    private static int wrong = 0;

    public static void main(String[] args) throws Exception {
        Path root = args.length > 0 ? Path.of(args[0]).resolve("../../../..").normalize() : Path.of("");
        String readme = Files.readString(root.resolve("README.md"));
        for (Method method : GonePipes.class.getDeclaredMethods()) {
            if (Modifier.isPublic(method.getModifiers())) {
                CALLS.put(method.getName(), method);
                check(readme.contains("`" + method.getName() + "`"), method.getName() + " is not named");
            }
        }
        runExample(readme);
        runText(readme);
        if (wrong != 0) {
            System.exit(1);
        }
    }

    private static void check(boolean isSo, String what) {
        if (!isSo) {
            wrong++;
            System.out.println("README.md: " + what);
        }
    }

    private static void runExample(String readme) throws Exception {
        String[] around = readme.split("```java\n|```\n");
        String example = "";
        for (String part : around) {
            example = part.startsWith("GonePipes x = new GonePipes();\n") ? part : example;
        }
        String[] lines = example.split("\n");
        check(lines.length > 1, "no example");
        GonePipes x = new GonePipes();
        for (int i = 1; i < lines.length; i++) {
            Matcher told = CALL.matcher(lines[i]);
            if (told.matches() && CALLS.containsKey(told.group(1))) {
                Object got = CALLS.get(told.group(1)).invoke(x, numbers(told.group(2)));
                check(got.toString().equals(told.group(3)), lines[i] + " answered " + got);
            } else {
                check(false, "no call and its answer: " + lines[i]);
            }
        }
    }

    private static Object[] numbers(String told) {
        String[] words = told.isBlank() ? new String[0] : told.split(", *");
        Object[] numbers = new Object[words.length];
        for (int i = 0; i < words.length; i++) {
            numbers[i] = Integer.parseInt(words[i].trim());
        }
        return numbers;
    }

    /** The text that is shown tells an organ of as many items as it has ends. */
    private static void runText(String readme) {
        Matcher shown = Pattern.compile("`(organ;[^`]*)`").matcher(readme);
        check(shown.find(), "no text of an organ");
        GonePipes x = new GonePipes();
        String text = shown.reset().find() ? shown.group(1) : "";
        for (int i = 0; i < text.length(); i++) {
            x.type(text.charAt(i));
        }
        int items = text.length() - text.replace(";", "").length();
        check(x.read() == items, text + " does not tell " + items + " items");
    }
}
