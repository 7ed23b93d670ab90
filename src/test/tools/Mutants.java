import java.io.File;
import java.io.InputStream;
import java.nio.file.Files;
import java.nio.file.Path;
import java.util.ArrayList;
import java.util.Arrays;
import java.util.List;
import java.util.Map;
import java.util.Set;
import java.util.TreeSet;
import java.util.concurrent.Callable;
import java.util.concurrent.ExecutorService;
import java.util.concurrent.Executors;
import java.util.concurrent.Future;
import java.util.concurrent.TimeUnit;
import java.util.regex.Matcher;
import java.util.regex.Pattern;
import javax.tools.ToolProvider;

/**
 * Breaks the class in one place after another, and tells which breaks no test sees, and which sentences no break
 * is seen by. By hand, not in .ci/run: java src/test/tools/Mutants.java [test ...]
 */
public final class Mutants {
    private static final Path SOURCE = Path.of("src/main/java/GonePipes.java");
    private static final int SECONDS = 60;

    private static final Map<String, String[]> OTHERS = Map.ofEntries(
        Map.entry("<", new String[] {"<="}), Map.entry("<=", new String[] {"<"}),
        Map.entry(">", new String[] {">="}), Map.entry(">=", new String[] {">"}),
        Map.entry("==", new String[] {"!="}), Map.entry("!=", new String[] {"=="}),
        Map.entry("&&", new String[] {"||"}), Map.entry("||", new String[] {"&&"}),
        Map.entry("+", new String[] {"-"}), Map.entry("-", new String[] {"+"}),
        Map.entry("*", new String[] {"+"}), Map.entry("%", new String[] {"/"}), Map.entry("/", new String[] {"%"}),
        Map.entry("++", new String[] {"--"}), Map.entry("--", new String[] {"++"}),
        Map.entry("true", new String[] {"false"}), Map.entry("false", new String[] {"true"}));

    private record Mutant(int line, String was, String is, String text) {
    }

    private static List<String> tests = List.of("EdgesOfTextTest", "EdgesOfPromisesTest", "EdgesOfTermsTest", "EdgesOfNumbersTest");
    private static Path work;
    private static final Set<String> seen = new TreeSet<>();

    public static void main(String[] args) throws Exception {
        if (args.length > 0) {
            tests = Arrays.asList(args);
        }
        work = Files.createTempDirectory("mutants");
        compileTests();
        List<Mutant> all = mutants(Files.readString(SOURCE));
        ExecutorService pool = Executors.newFixedThreadPool(Runtime.getRuntime().availableProcessors());
        List<Future<String>> answers = new ArrayList<>();
        for (int i = 0; i < all.size(); i++) {
            int number = i;
            answers.add(pool.submit((Callable<String>) () -> tryOne(all.get(number), number)));
        }
        int seenOnes = 0;
        int left = 0;
        for (Future<String> answer : answers) {
            String told = answer.get();
            seenOnes += told.equals("seen") ? 1 : 0;
            left += told.startsWith("left") ? 1 : 0;
            if (told.startsWith("left")) {
                System.out.println(told);
            }
        }
        pool.shutdown();
        System.out.println(all.size() + " breaks, seen " + seenOnes + ", not seen " + left + ", do not compile "
            + (all.size() - seenOnes - left));
        Files.write(work.resolve("sentences"), seen);
        System.out.println("sentences that see a break: " + seen.size() + ", listed in " + work.resolve("sentences"));
    }

    private static void compileTests() throws Exception {
        List<String> what = new ArrayList<>(List.of("-nowarn", "-d", work.resolve("tests").toString(), "-sourcepath",
            "src/test/support", SOURCE.toString()));
        for (String test : tests) {
            what.add("src/test/java/" + test + ".java");
        }
        if (ToolProvider.getSystemJavaCompiler().run(null, null, null, what.toArray(new String[0])) != 0) {
            throw new IllegalStateException("the tests do not compile");
        }
        for (File file : work.resolve("tests").toFile().listFiles()) {
            if (file.getName().startsWith("GonePipes")) {
                Files.delete(file.toPath());
            }
        }
    }

    private static List<Mutant> mutants(String source) {
        List<Mutant> all = new ArrayList<>();
        Pattern part = Pattern.compile("(?s)/\\*.*?\\*/|//[^\n]*|\"[^\"]*\"|'[^']*'|\\b\\d+L?\\b|\\b(?:true|false)\\b"
            + "|\\+\\+|--|[<>=!]=|&&|\\|\\||<<|>>|[+*%/-]=|[<>+*%/-]");
        Matcher found = part.matcher(source);
        while (found.find()) {
            String was = found.group();
            if (was.matches("\\d+L?")) {
                long n = Long.parseLong(was.replace("L", ""));
                add(all, source, found.start(), was, Long.toString(n + 1) + (was.endsWith("L") ? "L" : ""));
                if (n > 0) {
                    add(all, source, found.start(), was, Long.toString(n - 1) + (was.endsWith("L") ? "L" : ""));
                }
            } else {
                for (String is : OTHERS.getOrDefault(was, new String[0])) {
                    add(all, source, found.start(), was, is);
                }
            }
        }
        addLines(all, source);
        return all;
    }

    /** A statement is left out, a condition always or never holds. */
    private static void addLines(List<Mutant> all, String source) {
        Matcher found = Pattern.compile("(?m)^ {8,}(?!return|break|continue|for)([a-zA-Z].*;)$").matcher(source);
        while (found.find()) {
            add(all, source, found.start(1), found.group(1), ";");
        }
        found = Pattern.compile("(?s)\\bif \\((.*?)\\) \\{\n").matcher(source);
        while (found.find()) {
            add(all, source, found.start(1), found.group(1), "1 == 1");
            add(all, source, found.start(1), found.group(1), "false");
        }
    }

    private static void add(List<Mutant> all, String source, int at, String was, String is) {
        int line = (int) source.substring(0, at).chars().filter(c -> c == '\n').count() + 1;
        all.add(new Mutant(line, was.trim(), is, source.substring(0, at) + is + source.substring(at + was.length())));
    }

    private static String tryOne(Mutant mutant, int number) throws Exception {
        Path dir = Files.createDirectories(work.resolve("m" + number));
        Path file = dir.resolve("GonePipes.java");
        Files.writeString(file, mutant.text);
        java.io.OutputStream quiet = java.io.OutputStream.nullOutputStream();
        if (ToolProvider.getSystemJavaCompiler().run(null, quiet, quiet, "-nowarn", "-d", dir.toString(),
                file.toString()) != 0) {
            return "does not compile";
        }
        boolean isSeen = false;
        for (String test : tests) {
            isSeen |= fails(test, dir);
        }
        for (File made : dir.toFile().listFiles()) {
            Files.delete(made.toPath());
        }
        Files.delete(dir);
        String line = mutant.text.split("\n", -1)[mutant.line - 1].trim();
        return isSeen ? "seen" : "left: line " + mutant.line + ": " + mutant.was + " -> " + mutant.is + "    " + line;
    }

    private static boolean fails(String test, Path dir) throws Exception {
        Path told = dir.resolve(test + ".out");
        Process run = new ProcessBuilder("java", "-XX:TieredStopAtLevel=1", "-Xss512k", "-cp",
            dir + File.pathSeparator + work.resolve("tests"), test, SOURCE.toString())
            .redirectErrorStream(true).redirectOutput(told.toFile()).start();
        if (!run.waitFor(SECONDS, TimeUnit.SECONDS)) {
            run.destroyForcibly();
            return true;
        }
        try (InputStream in = Files.newInputStream(told)) {
            String text = new String(in.readAllBytes(), java.nio.charset.StandardCharsets.ISO_8859_1);
            synchronized (seen) {
                for (String line : text.split("\n")) {
                    int end = line.indexOf("': ");
                    if (end > 0) {
                        seen.add(test + ": " + line.substring(0, end + 1));
                    }
                }
            }
        }
        return run.exitValue() != 0;
    }
}
