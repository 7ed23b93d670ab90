import java.lang.reflect.Method;
import java.util.LinkedHashMap;
import java.util.Map;

/** Each number of each call: one too small or too large is refused, the least and the most are not. */
public final class EdgesOfNumbersTest {
    /** In place of the most: it goes by how many there are. */
    private static final int PIPE = 1001, PLACE = 1002, BITS = 1003;

    /** How many PIPES and PLACES the organs have that it is tried on. */
    private static final int[][] SIZES = {{0, 0}, {1, 1}, {4, 3}, {7, 4}, {8, 5}};

    private static final String THE_PIPES = "PIPES 0 .. 7, as they come";
    private static final String THE_PLACES = "PLACES 0 .. 4, as they come";
    private static final String THE_HYMNS = "HYMNS 0 .. 2";
    private static final String THE_SHIFT = "With a SHIFT (-6 .. 6)";

    /** The answers for BAD that are others than -2. */
    private static final Map<String, Integer> BAD = Map.of("of", -10, "then", -10, "best", -10, "walk", -10,
        "status", -1);
    /** Numbers that are as told in every organ with a PIPE and a PLACE. */
    private static final Map<String, int[]> USUAL = new LinkedHashMap<>();
    private static final Map<String, Method> CALLS = new LinkedHashMap<>();

    public static void main(String[] args) throws Exception {
        Sentence.begin(args);
        for (Method method : GonePipes.class.getDeclaredMethods()) {
            CALLS.put(method.getName(), method);
        }
        usual();
        organCalls();
        hourCalls();
        comingCalls();
        heardCalls();
        restCalls();
        Sentence.end("EdgesOfNumbersTest");
    }

    private static void usual() {
        USUAL.put("place", new int[] {0, 0, 0, 0, 0});
        USUAL.put("pipe", new int[] {0, 0});
        USUAL.put("note", new int[] {0, 0});
        USUAL.put("reading", new int[] {0, 0, 0, 0});
        USUAL.put("feast", new int[] {0, 0, 0});
        for (String two : new String[] {"of", "at", "then", "plays", "missing", "walk", "listen", "wish", "hours"}) {
            USUAL.put(two, new int[] {0, 0});
        }
        for (String one : new String[] {"hush", "type", "pass", "fetch", "left", "best", "fetchAll", "falls", "may", "part",
            "image", "from", "status", "count"}) {
            USUAL.put(one, new int[] {1});
        }
    }

    private static void organCalls() {
        terms(3, "a TONE (0 .. 11)", "place", 0, 0, 11);
        terms(3, "THE CLOCK has HOURS 0 .. 23", "place", 1, 0, 23);
        terms(3, "for n HOURS of it (0 .. 24, round)", "place", 2, 0, 24);
        terms(3, "EAST, NORTH (0 .. 30 each", "place", 3, 0, 30);
        terms(3, "NORTH (0 .. 30 each", "place", 4, 0, 30);
        terms(4, "5 NIGHT FLUTE (under FLUTE)", "pipe", 0, 0, 5);
        terms(4, "a NOTE (0 .. 35;", "pipe", 1, 0, 35);
        terms(5, THE_HYMNS, "note", 0, 0, 2);
        terms(5, "a NOTE (0 .. 35;", "note", 1, 0, 35);
        terms(6, THE_HYMNS, "hush", 0, 0, 2);
        promise(7, "A byte (0 .. 127) comes behind THE TEXT", "type", 0, 0, 127);
    }

    private static void hourCalls() {
        promise(10, "n HOURS go by (1 .. 48)", "pass", 0, 1, 48);
        terms(11, THE_PIPES, "fetch", 0, 0, PIPE);
        terms(13, THE_PIPES, "of", 0, 0, PIPE);
        promise(13, "KIND (0), NOTE (1), where it is (2; NONE: the church), for how many HOURS it is AWAY (3; 0), "
            + "whether it would go, were its TONE WISHED now (4; 1, 0). BAD: -10.", "of", 1, 0, 4);
        terms(14, THE_PLACES, "at", 0, 0, PLACE);
        promise(14, "TONE (0), whether it is WISHED now (1; 1, 0), PIPES there (2; bits), how far it is from the church "
            + "(3). BAD.", "at", 1, 0, 3);
    }

    private static void comingCalls() {
        terms(15, "THEN: where a PIPE is behind m HOURS (0 .. 72)", "then", 0, 0, 72);
        terms(15, THE_PIPES, "then", 1, 0, PIPE);
        terms(16, "behind m HOURS (0 .. 72); how many are in the church", "left", 0, 0, 72);
        terms(17, THE_HYMNS, "plays", 0, 0, 2);
        terms(17, THE_SHIFT, "plays", 1, -6, 6);
        terms(18, THE_HYMNS, "best", 0, 0, 2);
        terms(19, THE_HYMNS, "missing", 0, 0, 2);
        terms(19, THE_SHIFT, "missing", 1, -6, 6);
        terms(20, THE_HYMNS, "fetchAll", 0, 0, 2);
        terms(21, THE_HYMNS, "falls", 0, 0, 2);
        terms(22, "WALK for PIPES (bits)", "walk", 0, 0, BITS);
        promise(22, "how far (0), GO FIRST (1; NONE). BAD: -10.", "walk", 1, 0, 1);
    }

    private static void heardCalls() {
        terms(23, THE_PIPES, "reading", 0, 0, PIPE);
        terms(23, "m HOURS (0 .. 72) from now", "reading", 1, 0, 72);
        terms(23, THE_PLACES, "reading", 2, 0, PLACE);
        terms(23, "a PIPE is heard at a PLACE, or is not (1, 0)", "reading", 3, 0, 1);
        terms(25, THE_PIPES, "may", 0, 0, PIPE);
        terms(26, THE_PIPES, "listen", 0, 0, PIPE);
        terms(26, "m HOURS (0 .. 72) from now", "listen", 1, 0, 72);
        terms(27, THE_PLACES, "wish", 0, 0, PLACE);
        terms(27, "so that most PIPES are in the church behind m HOURS (0 .. 72)", "wish", 1, 0, 72);
        terms(28, THE_HYMNS, "feast", 0, 0, 2);
        terms(28, THE_SHIFT, "feast", 1, -6, 6);
        terms(28, "each PIPE that is AWAY comes back by c of 10 (0 .. 10), apart", "feast", 2, 0, 10);
        terms(29, "HOURS by a SEED (0 .. 999999)", "hours", 0, 0, 999999);
        terms(29, "HOURS by a SEED (0 .. 999999), n (0 .. 60)", "hours", 1, 0, 60);
    }

    private static void restCalls() {
        promise(30, "THE FRACTION: above (0), below (1). BAD.", "part", 0, 0, 1);
        terms(31, "IMAGES 0, 1 keep all", "image", 0, 0, 1);
        terms(32, "IMAGES 0, 1 keep all", "from", 0, 0, 1);
        promise(33, "STATUS: BAD (0), NO (1), FULL (2). -1: another what (counts as BAD).", "status", 0, 0, 2);
        promise(34, "How many: 0 PIPES, 1 PLACES, 2 the HOUR, 3 PIPES AWAY, 4 READINGS, 5 that may be undone, 6 bytes of "
            + "THE TEXT. BAD.", "count", 0, 0, 6);
    }

    private static void terms(int promise, String words, String call, int index, int least, int most) {
        Sentence.terms(promise, words, () -> everywhere(call, index, least, most));
    }

    private static void promise(int promise, String words, String call, int index, int least, int most) {
        Sentence.promise(promise, words, () -> everywhere(call, index, least, most));
    }

    private static void everywhere(String call, int index, int least, int most) {
        for (int[] size : SIZES) {
            range(size, call, index, least, mostOf(most, size));
        }
    }

    private static int mostOf(int most, int[] size) {
        return switch (most) {
            case PIPE -> size[0] - 1;
            case PLACE -> size[1] - 1;
            case BITS -> (1 << size[0]) - 1;
            default -> most;
        };
    }

    private static void range(int[] size, String call, int index, int least, int most) {
        for (int n : new int[] {least - 1, least - 13, -1000, Integer.MIN_VALUE, most + 1, most + 2, most + 25, most + 256,
            most + 1000000, Integer.MAX_VALUE}) {
            if (n < least || n > most) {
                refused(organ(size), call, with(call, index, n));
            }
        }
        boolean isOthersTold = size[0] > 0 && size[1] > 0;
        if (isOthersTold && least <= most) {
            accepted(organ(size), call, with(call, index, least));
            accepted(organ(size), call, with(call, index, most));
            accepted(organ(size), call, with(call, index, least + (most - least) / 2));
        }
    }

    private static int[] with(String call, int index, int n) {
        int[] numbers = USUAL.get(call).clone();
        if (call.equals("fetch") || call.equals("may")) {
            numbers[0] = 0;
        }
        numbers[index] = n;
        return numbers;
    }

    /** Some are AWAY, and something may be undone. */
    private static GonePipes organ(int[] size) {
        GonePipes x = new GonePipes();
        for (int i = 0; i < size[1]; i++) {
            x.place(i, 0, 24, i, 30 - i);
        }
        for (int i = 0; i < size[0]; i++) {
            x.pipe(i % 6, i);
        }
        Sentence.put(x, "hymn 0 1 2 3;hymn 1 35;pass 3");
        x.reading(0, 5, 0, 1);
        x.type(';');
        x.feast(1, 0, 0);
        return x;
    }

    private static long call(GonePipes x, String call, int[] n) {
        Object[] numbers = new Object[n.length];
        for (int i = 0; i < n.length; i++) {
            numbers[i] = n[i];
        }
        try {
            return ((Number) CALLS.get(call).invoke(x, numbers)).longValue();
        } catch (ReflectiveOperationException e) {
            throw new IllegalStateException(e.getCause() == null ? e : e.getCause());
        }
    }

    private static String told(String call, int[] n) {
        return call + java.util.Arrays.toString(n);
    }

    private static void refused(GonePipes x, String call, int[] n) {
        long before = x.digest();
        int badOnes = x.status(0);
        int noOnes = x.status(1);
        int fullOnes = x.status(2);
        Sentence.due(told(call, n), call(x, call, n), BAD.getOrDefault(call, -2));
        Sentence.due(told(call, n) + ", then digest()", x.digest(), before);
        Sentence.status(x, badOnes + 1, noOnes, fullOnes);
    }

    private static void accepted(GonePipes x, String call, int[] n) {
        int badOnes = x.status(0);
        call(x, call, n);
        Sentence.due(told(call, n) + " is as told: status(0)", x.status(0), badOnes);
    }
}
