import java.math.BigInteger;
import java.util.ArrayDeque;
import java.util.ArrayList;
import java.util.Arrays;
import java.util.Deque;
import java.util.List;
import java.util.Random;
import java.util.regex.Matcher;
import java.util.regex.Pattern;

/** Long runs of calls, by seeds, against a plain model that tries everything out, with the Java library. */
public final class ModelTest {
    private static final int RUNS = 2000;
    /** What an object answers beyond is free. */
    private static final int MOST_CALLS = 512;
    private static int wrong = 0;
    private static int calls;

    /** The model's state, made anew for every step that looks ahead. */
    private static final class World {
        int hour;
        List<int[]> places = new ArrayList<>();
        List<int[]> pipes = new ArrayList<>();
        List<List<Integer>> hymns = new ArrayList<>();
        List<int[]> readings = new ArrayList<>();
        Deque<World> past = new ArrayDeque<>();

        World() {
            for (int i = 0; i < 3; i++) {
                hymns.add(new ArrayList<>());
            }
        }

        World copy() {
            World w = new World();
            w.hour = hour;
            for (int[] p : places) {
                w.places.add(p.clone());
            }
            for (int[] p : pipes) {
                w.pipes.add(p.clone());
            }
            for (int i = 0; i < 3; i++) {
                w.hymns.get(i).addAll(hymns.get(i));
            }
            for (int[] r : readings) {
                w.readings.add(r.clone());
            }
            w.past.addAll(past);
            return w;
        }

        void remember() {
            World w = copy();
            w.past.clear();
            past.addLast(w);
            if (past.size() > 8) {
                past.removeFirst();
            }
        }

        boolean night() {
            return hour % 24 <= 5 || hour % 24 >= 18;
        }

        boolean wished(int place) {
            int[] p = places.get(place);
            for (int k = 0; k < p[2]; k++) {
                if ((p[1] + k) % 24 == hour % 24) {
                    return true;
                }
            }
            return false;
        }

        int gone() {
            return (int) pipes.stream().filter(p -> p[2] != -1).count();
        }

        boolean goes(int pipe) {
            boolean another = false;
            for (int i = 0; i < pipes.size(); i++) {
                another |= i != pipe && pipes.get(i)[2] != -1;
            }
            switch (pipes.get(pipe)[0]) {
                case 2: return another;
                case 3: return night();
                case 5: return another && night();
                default: return true;
            }
        }

        boolean back(int[] p) {
            boolean plain = !wished(p[2]);
            switch (p[0]) {
                case 1: case 3: return plain && p[3] > 2;
                case 4: return plain || p[3] > 1;
                case 5: return false;
                default: return plain;
            }
        }

        void step() {
            hour++;
            for (int i = 0; i < pipes.size(); i++) {
                int[] p = pipes.get(i);
                if (p[2] != -1) {
                    p[3]++;
                    if (back(p)) {
                        p[2] = -1;
                        p[3] = 0;
                    }
                } else if (goes(i)) {
                    for (int k = 0; k < places.size() && p[2] == -1; k++) {
                        int place = k;
                        boolean taken = pipes.stream().anyMatch(q -> q[2] == place);
                        if (!taken && wished(k) && places.get(k)[0] == p[1] % 12) {
                            p[2] = k;
                            p[3] = 0;
                        }
                    }
                }
            }
        }

        World after(int m) {
            World w = copy();
            for (int i = 0; i < m; i++) {
                w.step();
            }
            return w;
        }

        World withKind(int pipe, int kind) {
            World w = copy();
            w.pipes.get(pipe)[0] = kind;
            return w;
        }

        boolean inChurch(int note) {
            return pipes.stream().anyMatch(p -> p[1] == note && p[2] == -1);
        }

        int played(int hymn, int shift) {
            return (int) hymns.get(hymn).stream().filter(n -> inChurch(n + shift)).count();
        }

        boolean whole(int hymn) {
            for (int s = -6; s <= 6; s++) {
                if (played(hymn, s) == hymns.get(hymn).size()) {
                    return true;
                }
            }
            return false;
        }

        int may(int pipe) {
            int bits = 0;
            for (int k = 0; k < 6; k++) {
                World w = withKind(pipe, k);
                boolean all = true;
                for (int[] r : readings) {
                    all &= (w.after(r[1]).pipes.get(r[0])[2] == r[2]) == (r[3] == 1);
                }
                bits |= all ? 1 << k : 0;
            }
            return bits;
        }

        int[] spot(int place) {
            return place < 0 ? new int[] {0, 0} : new int[] {places.get(place)[3], places.get(place)[4]};
        }

        int far(int a, int b) {
            return Math.abs(spot(a)[0] - spot(b)[0]) + Math.abs(spot(a)[1] - spot(b)[1]);
        }

        /** Every row of the places, the least row first: length and first of the best. */
        int[] walk(int bits) {
            List<Integer> goals = new ArrayList<>();
            for (int k = 0; k < places.size(); k++) {
                for (int i = 0; i < pipes.size(); i++) {
                    if ((bits >> i & 1) == 1 && pipes.get(i)[2] == k && !goals.contains(k)) {
                        goals.add(k);
                    }
                }
            }
            int[] best = {Integer.MAX_VALUE, -1};
            rows(goals, new ArrayList<>(), best);
            return best;
        }

        private void rows(List<Integer> goals, List<Integer> row, int[] best) {
            if (row.size() == goals.size()) {
                int far = 0;
                int here = -1;
                for (int k : row) {
                    far += far(here, k);
                    here = k;
                }
                far += far(here, -1);
                if (far < best[0]) {
                    best[0] = far;
                    best[1] = row.isEmpty() ? -1 : row.get(0);
                }
                return;
            }
            for (int k : goals) {
                if (!row.contains(k)) {
                    row.add(k);
                    rows(goals, row, best);
                    row.remove(row.size() - 1);
                }
            }
        }

        int fetchAll(int hymn) {
            int best = -1;
            for (int set = 0; set < 1 << pipes.size(); set++) {
                World w = copy();
                boolean allAway = true;
                for (int i = 0; i < pipes.size(); i++) {
                    if ((set >> i & 1) == 1) {
                        allAway &= w.pipes.get(i)[2] != -1;
                        w.pipes.get(i)[2] = -1;
                    }
                }
                if (allAway && (best == -1 || Integer.bitCount(set) < Integer.bitCount(best)) && w.whole(hymn)) {
                    best = set;
                }
            }
            return best;
        }

        /** Over all ways in which those that are away come back or not. */
        BigInteger[] feast(int hymn, int shift, int c) {
            BigInteger good = BigInteger.ZERO;
            for (int set = 0; set < 1 << pipes.size(); set++) {
                World w = copy();
                BigInteger chance = BigInteger.ONE;
                for (int i = 0; i < pipes.size(); i++) {
                    boolean comes = (set >> i & 1) == 1;
                    if (w.pipes.get(i)[2] == -1) {
                        chance = chance.multiply(BigInteger.valueOf(comes ? 0 : 10));
                    } else {
                        chance = chance.multiply(BigInteger.valueOf(comes ? c : 10 - c));
                        w.pipes.get(i)[2] = comes ? -1 : w.pipes.get(i)[2];
                    }
                }
                if (w.played(hymn, shift) == hymns.get(hymn).size()) {
                    good = good.add(chance);
                }
            }
            BigInteger all = BigInteger.TEN.pow(pipes.size());
            BigInteger divisor = good.gcd(all);
            return new BigInteger[] {good.divide(divisor), all.divide(divisor)};
        }
    }

    private static World now;
    private static World[] images;
    private static StringBuilder text;
    private static long above, below;
    private static int[] status;

    private static int refuse(int which, int answer) {
        status[which]++;
        return answer;
    }

    private static boolean in(int v, int least, int most) {
        return v >= least && v <= most;
    }

    private static long answer(String name, int[] a) {
        int pipes = now.pipes.size();
        int places = now.places.size();
        switch (name) {
            case "organ":
                now = new World();
                return pipes;
            case "place":
                if (!in(a[0], 0, 11) || !in(a[1], 0, 23) || !in(a[2], 0, 24) || !in(a[3], 0, 30) || !in(a[4], 0, 30)) {
                    return refuse(0, -2);
                }
                if (places == 5) {
                    return refuse(2, -4);
                }
                now.places.add(a.clone());
                now.past.clear();
                return places;
            case "pipe":
                if (!in(a[0], 0, 5) || !in(a[1], 0, 35)) {
                    return refuse(0, -2);
                }
                if (pipes == 8) {
                    return refuse(2, -4);
                }
                now.pipes.add(new int[] {a[0], a[1], -1, 0});
                now.past.clear();
                return pipes;
            case "note":
                if (!in(a[0], 0, 2) || !in(a[1], 0, 35)) {
                    return refuse(0, -2);
                }
                if (now.hymns.get(a[0]).size() == 8) {
                    return refuse(2, -4);
                }
                now.hymns.get(a[0]).add(a[1]);
                return now.hymns.get(a[0]).size();
            case "hush":
                if (!in(a[0], 0, 2)) {
                    return refuse(0, -2);
                }
                int had = now.hymns.get(a[0]).size();
                now.hymns.get(a[0]).clear();
                return had;
            case "type":
                if (!in(a[0], 0, 127)) {
                    return refuse(0, -2);
                }
                if (text.length() == 150) {
                    return refuse(2, -4);
                }
                text.append((char) a[0]);
                return text.length();
            case "clear":
                int length = text.length();
                text.setLength(0);
                return length;
            case "read":
                return readText();
            case "pass":
                if (!in(a[0], 1, 48)) {
                    return refuse(0, -2);
                }
                for (int i = 0; i < a[0]; i++) {
                    now.remember();
                    now.step();
                }
                return pipes - now.gone();
            case "fetch":
                if (!in(a[0], 0, pipes - 1)) {
                    return refuse(0, -2);
                }
                int was = now.pipes.get(a[0])[2];
                if (was == -1) {
                    return refuse(1, -3);
                }
                now.remember();
                now.pipes.get(a[0])[2] = -1;
                now.pipes.get(a[0])[3] = 0;
                return was;
            case "undo":
                if (now.past.isEmpty()) {
                    return refuse(1, -3);
                }
                World before = now.past.removeLast();
                now.hour = before.hour;
                for (int i = 0; i < pipes; i++) {
                    now.pipes.set(i, before.pipes.get(i).clone());
                }
                return now.hour;
            default:
                return answerAsked(name, a, pipes, places);
        }
    }

    private static long answerAsked(String name, int[] a, int pipes, int places) {
        switch (name) {
            case "of":
                if (!in(a[0], 0, pipes - 1) || !in(a[1], 0, 4)) {
                    return refuse(0, -10);
                }
                return a[1] == 4 ? (now.goes(a[0]) ? 1 : 0) : now.pipes.get(a[0])[a[1]];
            case "at":
                if (!in(a[0], 0, places - 1) || !in(a[1], 0, 3)) {
                    return refuse(0, -2);
                }
                int there = 0;
                for (int i = 0; i < pipes; i++) {
                    there |= now.pipes.get(i)[2] == a[0] ? 1 << i : 0;
                }
                return new int[] {now.places.get(a[0])[0], now.wished(a[0]) ? 1 : 0, there, now.far(-1, a[0])}[a[1]];
            case "then":
                return !in(a[0], 0, 72) || !in(a[1], 0, pipes - 1) ? refuse(0, -10) : now.after(a[0]).pipes.get(a[1])[2];
            case "left":
                return !in(a[0], 0, 72) ? refuse(0, -2) : pipes - now.after(a[0]).gone();
            case "plays":
                return !in(a[0], 0, 2) || !in(a[1], -6, 6) ? refuse(0, -2) : now.played(a[0], a[1]);
            case "best":
                if (!in(a[0], 0, 2)) {
                    return refuse(0, -10);
                }
                int best = -6;
                for (int s = -5; s <= 6; s++) {
                    int more = now.played(a[0], s) - now.played(a[0], best);
                    if (more > 0 || more == 0 && Math.abs(s) < Math.abs(best)) {
                        best = s;
                    }
                }
                return best;
            case "missing":
                if (!in(a[0], 0, 2) || !in(a[1], -6, 6)) {
                    return refuse(0, -2);
                }
                int tones = 0;
                for (int n : now.hymns.get(a[0])) {
                    tones |= now.inChurch(n + a[1]) ? 0 : 1 << n % 12;
                }
                return tones;
            case "fetchAll":
                return !in(a[0], 0, 2) ? refuse(0, -2) : now.fetchAll(a[0]);
            case "falls":
                if (!in(a[0], 0, 2)) {
                    return refuse(0, -2);
                }
                for (int m = 0; m <= 48; m++) {
                    if (!now.after(m).whole(a[0])) {
                        return m;
                    }
                }
                return -1;
            case "walk":
                return !in(a[0], 0, (1 << pipes) - 1) || !in(a[1], 0, 1) ? refuse(0, -10) : now.walk(a[0])[a[1]];
            default:
                return answerHeard(name, a, pipes, places);
        }
    }

    private static long answerHeard(String name, int[] a, int pipes, int places) {
        switch (name) {
            case "reading":
                if (!in(a[0], 0, pipes - 1) || !in(a[1], 0, 72) || !in(a[2], 0, places - 1) || !in(a[3], 0, 1)) {
                    return refuse(0, -2);
                }
                if (now.readings.size() == 6) {
                    return refuse(2, -4);
                }
                now.readings.add(a.clone());
                return now.readings.size();
            case "forget":
                int had = now.readings.size();
                now.readings.clear();
                return had;
            case "may":
                return !in(a[0], 0, pipes - 1) ? refuse(0, -2) : now.may(a[0]);
            case "listen":
                return !in(a[0], 0, pipes - 1) || !in(a[1], 0, 72) ? refuse(0, -2) : listen(a[0], a[1]);
            case "wish":
                return !in(a[0], 0, places - 1) || !in(a[1], 0, 72) ? refuse(0, -2) : wish(a[0], a[1]);
            case "feast":
                if (!in(a[0], 0, 2) || !in(a[1], -6, 6) || !in(a[2], 0, 10)) {
                    return refuse(0, -2);
                }
                BigInteger[] fraction = now.feast(a[0], a[1], a[2]);
                above = fraction[0].longValueExact();
                below = fraction[1].longValueExact();
                return 1;
            case "hours":
                if (!in(a[0], 0, 999999) || !in(a[1], 0, 60)) {
                    return refuse(0, -2);
                }
                return pipes == 0 ? -1 : seeded(a[0], a[1]);
            case "part":
                return a[0] == 0 ? above : a[0] == 1 ? below : refuse(0, -2);
            case "image":
                if (!in(a[0], 0, 1)) {
                    return refuse(0, -2);
                }
                images[a[0]] = now.copy();
                return 1;
            case "from":
                if (!in(a[0], 0, 1)) {
                    return refuse(0, -2);
                }
                if (images[a[0]] == null) {
                    return refuse(1, -3);
                }
                now = images[a[0]].copy();
                return 1;
            case "status":
                return in(a[0], 0, 2) ? status[a[0]] : refuse(0, -1);
            case "count":
                return in(a[0], 0, 6) ? counts()[a[0]] : refuse(0, -2);
            default:
                return digest();
        }
    }

    private static int[] counts() {
        return new int[] {now.pipes.size(), now.places.size(), now.hour, now.gone(), now.readings.size(),
            now.past.size(), text.length()};
    }

    private static int listen(int pipe, int m) {
        int may = now.may(pipe);
        if (may == 0) {
            return -1;
        }
        int best = -1;
        int least = 99;
        for (int place = 0; place < now.places.size(); place++) {
            int there = 0;
            int elsewhere = 0;
            for (int k = 0; k < 6; k++) {
                if ((may & 1 << k) != 0) {
                    if (now.withKind(pipe, k).after(m).pipes.get(pipe)[2] == place) {
                        there++;
                    } else {
                        elsewhere++;
                    }
                }
            }
            if (Math.max(there, elsewhere) < least) {
                least = Math.max(there, elsewhere);
                best = place;
            }
        }
        return best;
    }

    private static int wish(int place, int m) {
        int best = 0;
        int most = -1;
        for (int tone = 0; tone < 12; tone++) {
            World w = now.copy();
            w.places.get(place)[0] = tone;
            int stay = w.pipes.size() - w.after(m).gone();
            if (stay > most) {
                most = stay;
                best = tone;
            }
        }
        return best;
    }

    private static int seeded(int seed, int n) {
        World w = now.copy();
        BigInteger x = BigInteger.valueOf(seed);
        for (int i = 0; i < n; i++) {
            x = x.multiply(BigInteger.valueOf(1103515245)).add(BigInteger.valueOf(12345))
                .mod(BigInteger.valueOf(2147483648L));
            int pipe = x.divide(BigInteger.valueOf(65536)).mod(BigInteger.valueOf(w.pipes.size())).intValue();
            w.pipes.get(pipe)[2] = -1;
            w.pipes.get(pipe)[3] = 0;
            w.step();
        }
        return w.gone();
    }

    private static long digest() {
        List<Long> v = new ArrayList<>();
        for (int c : counts()) {
            v.add((long) c);
        }
        for (List<int[]> rows : Arrays.asList(now.places, now.pipes)) {
            for (int[] row : rows) {
                for (int n : row) {
                    v.add((long) n);
                }
            }
        }
        for (List<Integer> hymn : now.hymns) {
            v.add((long) hymn.size());
            for (int n : hymn) {
                v.add((long) n);
            }
        }
        for (int[] row : now.readings) {
            for (int n : row) {
                v.add((long) n);
            }
        }
        v.add(above);
        v.add(below);
        long h = 983;
        for (long n : v) {
            h = 31 * h + n;
        }
        return h;
    }

    /** What may stand next, as a list of signs: the heads, the numbers that are still due, or any notes. */
    private static int readText() {
        World w = new World();
        List<Integer> due = new ArrayList<>();
        List<Integer> got = new ArrayList<>();
        String item = "";
        int items = 0;
        Matcher token = Pattern.compile("\\G *(?:([a-z]+)|([0-9]+)|(;)|([^ ]))").matcher(text);
        int end = 0;
        while (token.find()) {
            end = token.end();
            int start = end - (token.group().length() - token.group().lastIndexOf(' ') - 1);
            boolean isDone = !item.isEmpty() && due.isEmpty();
            if (token.group(1) != null && item.isEmpty()) {
                item = token.group(1);
                List<Integer> numbers = due(item, items, w);
                if (numbers == null) {
                    return -10 - start;
                }
                due = new ArrayList<>(numbers);
            } else if (token.group(2) != null && token.group(2).length() <= 2 && !due.isEmpty()
                    && Integer.parseInt(token.group(2)) <= due.get(0)) {
                got.add(Integer.parseInt(token.group(2)));
                due.remove(0);
            } else if (token.group(2) != null && token.group(2).length() <= 2 && isDone && item.equals("hymn")
                    && Integer.parseInt(token.group(2)) <= 35 && got.size() < 9) {
                got.add(Integer.parseInt(token.group(2)));
            } else if (token.group(3) != null && isDone) {
                take(w, item, got);
                items++;
                item = "";
                got.clear();
            } else {
                return -10 - start;
            }
        }
        if (!item.isEmpty() || items == 0) {
            return -10 - text.length();
        }
        now = w;
        return items;
    }

    private static List<Integer> due(String item, int items, World w) {
        if (item.equals("organ") == (items > 0)) {
            return null;
        }
        switch (item) {
            case "organ": return Arrays.asList();
            case "place": return w.places.size() == 5 ? null : Arrays.asList(11, 23, 24, 30, 30);
            case "pipe": return w.pipes.size() == 8 ? null : Arrays.asList(5, 35);
            case "hymn": return Arrays.asList(2);
            default: return null;
        }
    }

    private static void take(World w, String item, List<Integer> got) {
        if (item.equals("place")) {
            w.places.add(got.stream().mapToInt(n -> n).toArray());
        } else if (item.equals("pipe")) {
            w.pipes.add(new int[] {got.get(0), got.get(1), -1, 0});
        } else if (item.equals("hymn")) {
            w.hymns.set(got.get(0), new ArrayList<>(got.subList(1, got.size())));
        }
    }

    private static long call(GonePipes x, String name, int[] a) {
        switch (name) {
            case "organ": return x.organ();
            case "place": return x.place(a[0], a[1], a[2], a[3], a[4]);
            case "pipe": return x.pipe(a[0], a[1]);
            case "note": return x.note(a[0], a[1]);
            case "hush": return x.hush(a[0]);
            case "type": return x.type(a[0]);
            case "clear": return x.clear();
            case "read": return x.read();
            case "pass": return x.pass(a[0]);
            case "fetch": return x.fetch(a[0]);
            case "undo": return x.undo();
            case "of": return x.of(a[0], a[1]);
            case "at": return x.at(a[0], a[1]);
            case "then": return x.then(a[0], a[1]);
            case "left": return x.left(a[0]);
            case "plays": return x.plays(a[0], a[1]);
            case "best": return x.best(a[0]);
            case "missing": return x.missing(a[0], a[1]);
            case "fetchAll": return x.fetchAll(a[0]);
            case "falls": return x.falls(a[0]);
            case "walk": return x.walk(a[0], a[1]);
            case "reading": return x.reading(a[0], a[1], a[2], a[3]);
            case "forget": return x.forget();
            case "may": return x.may(a[0]);
            case "listen": return x.listen(a[0], a[1]);
            case "wish": return x.wish(a[0], a[1]);
            case "feast": return x.feast(a[0], a[1], a[2]);
            case "hours": return x.hours(a[0], a[1]);
            case "part": return x.part(a[0]);
            case "image": return x.image(a[0]);
            case "from": return x.from(a[0]);
            case "status": return x.status(a[0]);
            case "count": return x.count(a[0]);
            default: return x.digest();
        }
    }

    /** Names, how often, and from where to where the numbers go that are mostly told. */
    private static final Object[][] CALLS = {
        {"organ", 1}, {"place", 10, 0, 11, 0, 23, 0, 24, 0, 30, 0, 30}, {"pipe", 14, 0, 5, 0, 35},
        {"note", 12, 0, 2, 0, 35}, {"hush", 1, 0, 2}, {"pass", 30, 1, 48}, {"fetch", 12, 0, 7}, {"undo", 12},
        {"of", 12, 0, 7, 0, 4}, {"at", 8, 0, 4, 0, 3}, {"then", 6, 0, 72, 0, 7}, {"left", 4, 0, 72},
        {"plays", 5, 0, 2, -6, 6}, {"best", 5, 0, 2}, {"missing", 5, 0, 2, -6, 6}, {"fetchAll", 8, 0, 2},
        {"falls", 6, 0, 2}, {"walk", 12, 0, 255, 0, 1}, {"reading", 8, 0, 7, 0, 72, 0, 4, 0, 1}, {"forget", 2},
        {"may", 6, 0, 7}, {"listen", 6, 0, 7, 0, 72}, {"wish", 5, 0, 4, 0, 72}, {"feast", 10, 0, 2, -6, 6, 0, 10},
        {"hours", 5, 0, 999999, 0, 60}, {"part", 3, 0, 1}, {"image", 3, 0, 1}, {"from", 3, 0, 1},
        {"status", 3, 0, 2}, {"count", 4, 0, 6}, {"digest", 2}};

    private static void compare(int run, int step, GonePipes x, String name, int... a) {
        calls += 2;
        long want = answer(name, a);
        long got = call(x, name, a);
        if (got != want && wrong < 40) {
            wrong++;
            System.out.println("run " + run + ", call " + step + ": " + name + Arrays.toString(a) + " answered " + got
                + ", the model " + want + (name.equals("read") ? " '" + text + "'" : ""));
        }
        long state = x.digest();
        if (state != digest() && wrong < 40) {
            wrong++;
            System.out.println("run " + run + ", call " + step + ": another state behind " + name + Arrays.toString(a));
        }
    }

    private static int number(Random random, int least, int most) {
        int[] wild = {least - 1, most + 1, Integer.MIN_VALUE, Integer.MAX_VALUE, least, most, -7, 100};
        return random.nextInt(25) == 0 ? wild[random.nextInt(wild.length)] : least + random.nextInt(most - least + 1);
    }

    private static Object[] pick(Random random) {
        int all = 0;
        for (Object[] c : CALLS) {
            all += (Integer) c[1];
        }
        int at = random.nextInt(all);
        for (Object[] c : CALLS) {
            at -= (Integer) c[1];
            if (at < 0) {
                return c;
            }
        }
        return CALLS[0];
    }

    /** Few tones and notes, so that pipes do go and hymns are played. */
    private static int[] tame(Random random, String name, int[] a) {
        if (name.equals("place") && random.nextInt(8) > 0) {
            a[0] = random.nextInt(3);
            a[2] = random.nextInt(3) == 0 ? 24 : a[2];
        }
        if ((name.equals("pipe") || name.equals("note")) && random.nextInt(8) > 0) {
            a[1] = random.nextInt(3) + 12 * random.nextInt(2);
        }
        if (name.equals("pass") && random.nextInt(3) > 0) {
            a[0] = 1 + random.nextInt(3);
        }
        if ((name.equals("reading") || name.equals("listen") || name.equals("fetch")) && random.nextInt(2) > 0
                && !now.pipes.isEmpty()) {
            a[0] = random.nextInt(now.pipes.size());
        }
        if (name.equals("reading") && in(a[0], 0, now.pipes.size() - 1) && in(a[1], 0, 72) && random.nextInt(4) > 0
                && !now.places.isEmpty()) {
            World w = now.withKind(a[0], random.nextInt(6)).after(a[1]);
            int where = w.pipes.get(a[0])[2];
            a[2] = where < 0 ? random.nextInt(now.places.size()) : where;
            a[3] = where < 0 ? 0 : 1;
        }
        if (name.equals("walk") && !now.pipes.isEmpty() && random.nextInt(2) > 0) {
            a[0] = (1 << now.pipes.size()) - 1;
        }
        return a;
    }

    private static String organText(Random random) {
        StringBuilder s = new StringBuilder("organ;");
        int items = random.nextInt(14);
        for (int i = 0; i < items; i++) {
            switch (random.nextInt(3)) {
                case 0:
                    s.append("place ").append(random.nextInt(3)).append(' ').append(random.nextInt(24)).append(' ')
                        .append(random.nextInt(25)).append(' ').append(random.nextInt(31)).append(' ')
                        .append(random.nextInt(31)).append(';');
                    break;
                case 1:
                    s.append("pipe ").append(random.nextInt(6)).append(' ').append(random.nextInt(36)).append(';');
                    break;
                default:
                    s.append("hymn ").append(random.nextInt(3));
                    for (int k = random.nextInt(6); k > 0; k--) {
                        s.append(' ').append(random.nextInt(4));
                    }
                    s.append(';');
            }
        }
        String signs = "   ;;0123456789 organ place pipe hymn A-\t";
        for (int k = random.nextInt(3); k > 0; k--) {
            int at = random.nextInt(s.length());
            char c = signs.charAt(random.nextInt(signs.length()));
            switch (random.nextInt(3)) {
                case 0: s.insert(at, c); break;
                case 1: s.setCharAt(at, c); break;
                default: s.deleteCharAt(at);
            }
        }
        if (random.nextInt(6) == 0) {
            s.setLength(random.nextInt(s.length() + 1));
        }
        return s.toString();
    }

    private static boolean areLeft(int comparisons) {
        return calls + 2 * comparisons <= MOST_CALLS;
    }

    private static void textRun(int run, int step, GonePipes x, Random random) {
        String s = organText(random);
        if (!areLeft(s.length() + 6)) {
            return;
        }
        compare(run, step, x, "clear");
        for (int i = 0; i < s.length(); i++) {
            compare(run, step, x, "type", s.charAt(i));
        }
        compare(run, step, x, "read");
    }

    private static void run(int run) {
        Random random = new Random(run);
        now = new World();
        images = new World[2];
        text = new StringBuilder();
        above = 0;
        below = 1;
        status = new int[3];
        calls = 0;
        GonePipes x = new GonePipes();
        int steps = 140;
        for (int step = 0; step < steps && areLeft(4); step++) {
            if (random.nextInt(60) == 0) {
                textRun(run, step, x, random);
            }
            Object[] c = pick(random);
            int[] a = new int[(c.length - 2) / 2];
            for (int i = 0; i < a.length; i++) {
                a[i] = number(random, (Integer) c[2 + 2 * i], (Integer) c[3 + 2 * i]);
            }
            compare(run, step, x, (String) c[0], tame(random, (String) c[0], a));
        }
        for (int what = 0; what < 3; what++) {
            compare(run, steps, x, "status", what);
        }
    }

    public static void main(String[] args) {
        for (int i = 0; i < RUNS && wrong < 40; i++) {
            run(i);
        }
        System.out.println(RUNS + " runs against the model");
        if (wrong != 0) {
            System.exit(1);
        }
    }
}
