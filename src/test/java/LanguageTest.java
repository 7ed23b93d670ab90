import java.nio.file.Files;
import java.nio.file.Path;
import java.util.ArrayList;
import java.util.Arrays;
import java.util.Collections;
import java.util.HashSet;
import java.util.List;
import java.util.Set;
import java.util.regex.Matcher;
import java.util.regex.Pattern;

/** Looks over the source for what ../shared/LANGUAGE.md leaves out. Its argument: the source's path. */
public final class LanguageTest {
    private static int wrong = 0;

    private static final String[] FACE = {
        "organ", "place", "pipe", "note", "hush", "type", "clear", "read", "pass", "fetch", "undo", "of", "at",
        "then", "left", "plays", "best", "missing", "fetchAll", "falls", "walk", "reading", "forget", "may",
        "listen", "wish", "feast", "hours", "part", "image", "from", "status", "count", "digest"};

    private static void check(boolean isSo, String what) {
        if (!isSo) {
            wrong++;
            System.out.println("LanguageTest: " + what);
        }
    }

    public static void main(String[] args) throws Exception {
        String path = args.length > 0 ? args[0] : "src/main/java/GonePipes.java";
        String whole = Files.readString(Path.of(path));
        for (int i = 0; i < whole.length(); i++) {
            check(whole.charAt(i) < 128, "a sign above 127 at " + i);
        }
        String code = whole.replaceAll("(?s)/\\*.*?\\*/", " ").replaceAll("//[^\n]*", " ");
        checkWords(code);
        checkLibrary(code);
        checkMembers(code);
        checkLengths(code);
        checkFace();
        if (wrong != 0) {
            System.exit(1);
        }
    }

    private static void checkWords(String code) {
        String[] banned = {"throw", "throws", "try", "catch", "finally", "synchronized", "assert", "import", "package",
            "native", "volatile", "transient", "strictfp", "protected", "instanceof Object", "equals", "hashCode",
            "toString", "getClass", "Exact", "Random", "Thread", "nanoTime", "currentTimeMillis", "Object", "var"};
        for (String word : banned) {
            check(!Pattern.compile("\\b" + word + "\\b").matcher(code).find(), "the word " + word);
        }
        check(!code.contains("->"), "a lambda or an arrow");
        check(!code.contains("::"), "a method reference");
        check(!code.contains("@"), "an annotation");
        check(!code.contains("static {"), "a static initialiser block");
        Matcher joined = Pattern.compile("\"\\s*\\+|\\+\\s*\"").matcher(code);
        check(!joined.find(), "texts joined by +");
    }

    private static void checkLibrary(String code) {
        Set<String> allowed = new HashSet<>(Arrays.asList(
            "System.arraycopy", "Math.abs", "Math.max", "Math.min", "Integer.bitCount"));
        Matcher use = Pattern.compile("\\b(System|Math|Integer|Long|Arrays|List|String|Character)\\.([A-Za-z]+)")
            .matcher(code);
        while (use.find()) {
            check(allowed.contains(use.group()), "the library's " + use.group());
        }
    }

    private static void checkMembers(String code) {
        int firstClass = code.indexOf("private static class");
        check(firstClass > 0, "no class inside");
        String own = code.substring(0, firstClass);
        Matcher member = Pattern.compile("(?m)^    (?!public |private |[}/* ])\\S.*$").matcher(own);
        while (member.find()) {
            check(false, "neither public nor private: " + member.group().trim());
        }
        Set<String> face = new HashSet<>(Arrays.asList(FACE));
        Matcher method = Pattern.compile("(?m)^ +private [a-zA-Z\\[\\] ]*?([a-zA-Z]+)\\(").matcher(code);
        while (method.find()) {
            check(!face.contains(method.group(1)), "a private method with a public one's name: " + method.group(1));
        }
        Matcher field = Pattern.compile("(?m)^ +(private |public )?static (?!final|class|[a-zA-Z\\[\\]]+ [a-zA-Z]+\\()(.*)$")
            .matcher(code);
        while (field.find()) {
            check(false, "static and not final: " + field.group().trim());
        }
        int classes = 0;
        Matcher inner = Pattern.compile("\\bclass [A-Z]").matcher(code);
        while (inner.find()) {
            classes++;
        }
        check(classes <= 12, "more than twelve classes: " + classes);
    }

    private static void checkLengths(String code) {
        String[] lines = code.split("\n");
        int start = -1;
        String indent = "";
        for (int i = 0; i < lines.length; i++) {
            Matcher head = Pattern.compile("^( {4}| {8})[a-zA-Z].*\\)? \\{$").matcher(lines[i]);
            if (start < 0 && head.find() && lines[i].contains("(") && !lines[i].contains("class ")) {
                start = i;
                indent = head.group(1);
                String heading = lines[i];
                int first = heading.indexOf('(');
                long commas = heading.substring(first).chars().filter(c -> c == ',').count();
                check(commas < 7, "more than seven parameters: " + heading.trim());
            }
            if (start >= 0 && lines[i].equals(indent + "}")) {
                check(i - start <= 60, "a method over sixty lines: " + lines[start].trim());
                start = -1;
            }
        }
    }

    private static void checkFace() {
        List<String> got = new ArrayList<>();
        for (java.lang.reflect.Method method : GonePipes.class.getDeclaredMethods()) {
            if (!java.lang.reflect.Modifier.isPrivate(method.getModifiers())) {
                got.add(method.getName());
                boolean isLong = method.getName().equals("part") || method.getName().equals("digest");
                check(method.getReturnType() == (isLong ? long.class : int.class), "the answer of " + method);
            }
        }
        List<String> due = new ArrayList<>(Arrays.asList(FACE));
        Collections.sort(got);
        Collections.sort(due);
        check(got.equals(due), "methods " + got + ", due are " + due);
        int open = 0;
        for (java.lang.reflect.Field field : GonePipes.class.getDeclaredFields()) {
            if (!java.lang.reflect.Modifier.isPrivate(field.getModifiers())) {
                open++;
                check(Arrays.asList("NONE", "BAD", "NO", "FULL").contains(field.getName()), "the field " + field);
            }
        }
        check(open == 4, "fields that are not private: " + open);
        check(java.lang.reflect.Modifier.isFinal(GonePipes.class.getModifiers()), "the class is not final");
    }
}
