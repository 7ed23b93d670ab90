import java.nio.file.Files;
import java.nio.file.Path;
import java.util.Map;
import java.util.Set;
import java.util.TreeMap;
import java.util.TreeSet;
import java.util.function.LongSupplier;

/** Tests that stand for one sentence of the document each, named by the promise and by the sentence's own words. */
final class Sentence {
    /** By head: "Terms", "Promise 1", ... */
    private static final Map<String, String> SECTIONS = new TreeMap<>();
    private static final Set<Integer> SEEN = new TreeSet<>();
    private static String name = "";
    private static int tests, wrong;

    private Sentence() {
    }

    /** The second argument is the document's path. */
    static void begin(String[] args) throws Exception {
        String path = args.length > 1 ? args[1] : "../shared/DOC.md";
        for (String section : Files.readString(Path.of(path)).split("\n## ")) {
            int line = section.indexOf('\n');
            String head = line < 0 ? section : section.substring(0, line);
            SECTIONS.put(head.replaceAll(":.*", ""), plain(section));
        }
    }

    private static String plain(String words) {
        return words.replaceAll("```(text)?|======== [12] ", " ").replaceAll("\\s+", " ");
    }

    /** A sentence that stands under Terms, seen by a promise. */
    static void terms(int promise, String words, Runnable test) {
        run(promise, "Terms", words, test);
    }

    /** A sentence that stands under the promise itself. */
    static void promise(int promise, String words, Runnable test) {
        run(promise, "Promise " + promise, words, test);
    }

    /** A sentence that stands ahead of the promises. */
    static void whole(String words, Runnable test) {
        run(0, "What it is", words, test);
    }

    private static void run(int promise, String head, String words, Runnable test) {
        name = (promise == 0 ? "" : "promise " + promise + ", ") + head + " '" + words + "'";
        tests++;
        SEEN.add(promise);
        if (!SECTIONS.getOrDefault(head, "").contains(plain(words))) {
            fail("the document does not say so there");
        }
        try {
            test.run();
        } catch (RuntimeException | StackOverflowError e) {
            fail("threw " + e);
        }
    }

    static void fail(String what) {
        wrong++;
        System.out.println(name + ": " + what);
    }

    static void due(String what, long got, long want) {
        if (got != want) {
            fail(what + " answered " + got + ", due is " + want);
        }
    }

    static void due(String what, String got, String want) {
        if (!got.equals(want)) {
            fail(what + " was " + got + ", due is " + want);
        }
    }

    /** How often BAD (0), NO (1), FULL (2) were answered. */
    static void status(GonePipes x, int bad, int no, int full) {
        due("status(0)", x.status(0), bad);
        due("status(1)", x.status(1), no);
        due("status(2)", x.status(2), full);
    }

    private static void refused(GonePipes x, int which, String what, LongSupplier call, int want) {
        long before = x.digest();
        int[] counts = {x.status(0), x.status(1), x.status(2)};
        counts[which]++;
        due(what, call.getAsLong(), want);
        due(what + ", then digest()", x.digest(), before);
        status(x, counts[0], counts[1], counts[2]);
    }

    static void bad(GonePipes x, String what, LongSupplier call) {
        refused(x, 0, what, call, -2);
    }

    static void badTen(GonePipes x, String what, LongSupplier call) {
        refused(x, 0, what, call, -10);
    }

    static void no(GonePipes x, String what, LongSupplier call) {
        refused(x, 1, what, call, -3);
    }

    static void full(GonePipes x, String what, LongSupplier call) {
        refused(x, 2, what, call, -4);
    }

    /** Answers, but tells nothing else: no change, no refusal. */
    static void asks(GonePipes x, String what, LongSupplier call, long want) {
        long before = x.digest();
        int[] counts = {x.status(0), x.status(1), x.status(2)};
        due(what, call.getAsLong(), want);
        due(what + ", then digest()", x.digest(), before);
        status(x, counts[0], counts[1], counts[2]);
    }

    /** By calls, not by a text: items "place ...", "pipe ...", "hymn k notes", "pass n" with ; between. */
    static GonePipes organ(String items) {
        GonePipes x = new GonePipes();
        put(x, items);
        return x;
    }

    static void put(GonePipes x, String items) {
        for (String item : items.split(";")) {
            String[] words = item.trim().split(" +");
            int[] n = new int[words.length];
            for (int i = 1; i < words.length; i++) {
                n[i] = Integer.parseInt(words[i]);
            }
            switch (words[0]) {
                case "place" -> x.place(n[1], n[2], n[3], n[4], n[5]);
                case "pipe" -> x.pipe(n[1], n[2]);
                case "hymn" -> {
                    for (int i = 2; i < n.length; i++) {
                        x.note(n[1], n[i]);
                    }
                }
                case "pass" -> x.pass(n[1]);
                default -> {
                    if (!item.isBlank()) {
                        throw new IllegalArgumentException(item);
                    }
                }
            }
        }
    }

    static void type(GonePipes x, String text) {
        for (int i = 0; i < text.length(); i++) {
            x.type(text.charAt(i));
        }
    }

    /** A new object whose text it is. */
    static GonePipes typed(String text) {
        GonePipes x = new GonePipes();
        type(x, text);
        return x;
    }

    /** Where a pipe is, hour by hour; '-' is the church. */
    static String path(GonePipes x, int pipe, int hours) {
        StringBuilder path = new StringBuilder();
        for (int i = 0; i < hours; i++) {
            x.pass(1);
            int where = x.of(pipe, 2);
            path.append(where < 0 ? "-" : Integer.toString(where));
        }
        return path.toString();
    }

    /** The promises from one to another have a test each. */
    static void areSeen(int first, int last) {
        for (int promise = first; promise <= last; promise++) {
            if (!SEEN.contains(promise)) {
                name = "promise " + promise;
                fail("no test stands for it");
            }
        }
    }

    static void end(String file) {
        System.out.println(file + ": " + tests + " sentences, " + wrong + " wrong answers");
        if (wrong != 0) {
            System.exit(1);
        }
    }
}
