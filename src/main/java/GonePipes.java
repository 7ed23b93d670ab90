/** An organ whose pipes go, one by one, to where their tone is wished. */
public final class GonePipes {
    public static final int NONE = -1, BAD = -2, NO = -3, FULL = -4;

    /** What some calls answer for BAD, as the document tells it. */
    private static final int BAD_TEN = -10;

    private static final int PLACES = 5, PIPES = 8, HYMNS = 3, READINGS = 6, IMAGES = 2, UNDOS = 8;
    private static final int KINDS = 6, TONES = 12, NOTES = 36, HYMN_NOTES = 8, BYTES = 150;
    private static final int CLOCK = 24, MOST_WISHED = 24, FARTHEST = 30, MOST_SHIFT = 6;
    private static final int MOST_PASSED = 48, MOST_AHEAD = 72, MOST_FALL = 48;
    private static final int MOST_CHANCE = 10, MOST_SEED = 999999, MOST_SEEDED = 60;

    /** How many numbers a PLACE, a READING, a kept moment are told by. */
    private static final int PLACE_ROW = 5, READING_ROW = 4, MOMENT_ROW = 1 + 2 * PIPES;

    private final Plain[] kinds;
    private final Organ now;
    /** Where looking ahead and reading are done, so that nothing has to be made in a call. */
    private final Organ trial;
    private final Organ[] images;
    private final boolean[] kept;
    private final Text text;
    private final Walk way;
    private final int[] whereByKind;
    private long above, below;
    private int refusedBad, refusedNo, refusedFull;

    public GonePipes() {
        kinds = new Plain[] {new Plain(), new Reed(), new Flute(), new Bourdon(), new Homesick(), new NightFlute()};
        now = new Organ();
        trial = new Organ();
        images = new Organ[] {new Organ(), new Organ()};
        kept = new boolean[IMAGES];
        text = new Text();
        way = new Walk();
        whereByKind = new int[KINDS];
        above = 0;
        below = 1;
    }

    // ---- an organ

    public int organ() {
        int pipes = now.pipes;
        now.reset();
        return pipes;
    }

    public int place(int tone, int from, int n, int east, int north) {
        if (!isUpTo(tone, TONES - 1) || !isUpTo(from, CLOCK - 1) || !isUpTo(n, MOST_WISHED)
                || !isUpTo(east, FARTHEST) || !isUpTo(north, FARTHEST)) {
            return refuseBad();
        }
        if (!now.addPlace(tone, from, n, east, north)) {
            return refuseFull();
        }
        now.past.reset();
        return now.places - 1;
    }

    public int pipe(int kind, int note) {
        if (!isUpTo(kind, KINDS - 1) || !isUpTo(note, NOTES - 1)) {
            return refuseBad();
        }
        if (!now.addPipe(kind, note)) {
            return refuseFull();
        }
        now.past.reset();
        return now.pipes - 1;
    }

    public int note(int hymn, int n) {
        if (!isHymn(hymn) || !isUpTo(n, NOTES - 1)) {
            return refuseBad();
        }
        if (!now.addNote(hymn, n)) {
            return refuseFull();
        }
        return now.hymnCounts[hymn];
    }

    public int hush(int hymn) {
        if (!isHymn(hymn)) {
            return refuseBad();
        }
        int had = now.hymnCounts[hymn];
        now.emptyHymn(hymn);
        return had;
    }

    public int type(int c) {
        if (!isUpTo(c, 127)) {
            return refuseBad();
        }
        if (!text.add(c)) {
            return refuseFull();
        }
        return text.count;
    }

    public int clear() {
        int had = text.count;
        text.count = 0;
        return had;
    }

    public int read() {
        int answer = text.readInto(trial);
        if (answer >= 0) {
            now.takeAll(trial);
        }
        return answer;
    }

    // ---- hours

    public int pass(int n) {
        if (n < 1 || n > MOST_PASSED) {
            return refuseBad();
        }
        for (int i = 0; i < n; i++) {
            now.past.keep(now);
            now.letHourGoBy(kinds);
        }
        return now.pipes - now.howManyAway();
    }

    public int fetch(int pipe) {
        if (!isPipe(pipe)) {
            return refuseBad();
        }
        int place = now.where[pipe];
        if (place == NONE) {
            return refuseNo();
        }
        now.past.keep(now);
        now.bringHome(pipe);
        return place;
    }

    public int undo() {
        if (!now.past.giveBack(now)) {
            return refuseNo();
        }
        return now.hour;
    }

    public int of(int pipe, int what) {
        if (!isPipe(pipe)) {
            return refuseBadTen();
        }
        switch (what) {
            case 0:
                return now.kind[pipe];
            case 1:
                return now.note[pipe];
            case 2:
                return now.where[pipe];
            case 3:
                return now.away[pipe];
            case 4:
                return now.wouldGo(pipe, kinds) ? 1 : 0;
            default:
                return refuseBadTen();
        }
    }

    public int at(int place, int what) {
        if (!isPlace(place)) {
            return refuseBad();
        }
        switch (what) {
            case 0:
                return now.toneWishedAt(place);
            case 1:
                return now.isWished(place) ? 1 : 0;
            case 2:
                return now.pipesAt(place);
            case 3:
                return now.howFar(NONE, place);
            default:
                return refuseBad();
        }
    }

    // ---- what comes, hymns

    public int then(int m, int pipe) {
        if (!isUpTo(m, MOST_AHEAD) || !isPipe(pipe)) {
            return refuseBadTen();
        }
        trial.takeStage(now);
        tryHours(m);
        return trial.where[pipe];
    }

    public int left(int m) {
        if (!isUpTo(m, MOST_AHEAD)) {
            return refuseBad();
        }
        trial.takeStage(now);
        tryHours(m);
        return trial.pipes - trial.howManyAway();
    }

    public int plays(int hymn, int shift) {
        if (!isHymn(hymn) || !isShift(shift)) {
            return refuseBad();
        }
        return now.howManyPlayed(hymn, shift, now.notesInChurch());
    }

    public int best(int hymn) {
        if (!isHymn(hymn)) {
            return refuseBadTen();
        }
        long church = now.notesInChurch();
        int best = 0;
        int most = now.howManyPlayed(hymn, 0, church);
        // by growing change, the lower one first: so only more than before is better
        for (int change = 1; change <= MOST_SHIFT; change++) {
            int lower = now.howManyPlayed(hymn, -change, church);
            if (lower > most) {
                most = lower;
                best = -change;
            }
            int higher = now.howManyPlayed(hymn, change, church);
            if (higher > most) {
                most = higher;
                best = change;
            }
        }
        return best;
    }

    public int missing(int hymn, int shift) {
        if (!isHymn(hymn) || !isShift(shift)) {
            return refuseBad();
        }
        long church = now.notesInChurch();
        int tones = 0;
        for (int i = 0; i < now.hymnCounts[hymn]; i++) {
            int note = now.hymnNote(hymn, i);
            if (!hasNote(church, note + shift)) {
                tones |= 1 << (note % TONES);
            }
        }
        return tones;
    }

    public int fetchAll(int hymn) {
        if (!isHymn(hymn)) {
            return refuseBad();
        }
        long church = now.notesInChurch();
        int fewest = NONE;
        for (int shift = -MOST_SHIFT; shift <= MOST_SHIFT; shift++) {
            int pipes = now.pipesToFetch(hymn, shift, church);
            if (pipes != NONE && (fewest == NONE || isFewer(pipes, fewest))) {
                fewest = pipes;
            }
        }
        return fewest;
    }

    public int falls(int hymn) {
        if (!isHymn(hymn)) {
            return refuseBad();
        }
        trial.takeStage(now);
        for (int m = 0; m <= MOST_FALL; m++) {
            if (m > 0) {
                trial.letHourGoBy(kinds);
            }
            if (!now.canBeWhole(hymn, trial.notesInChurch())) {
                return m;
            }
        }
        return NONE;
    }

    public int walk(int pipes, int what) {
        if (pipes < 0 || pipes >= 1 << now.pipes || !isUpTo(what, 1)) {
            return refuseBadTen();
        }
        way.find(now, now.placesOf(pipes));
        return what == 0 ? way.length : way.first;
    }

    // ---- what was heard, wished

    public int reading(int pipe, int m, int place, int heard) {
        if (!isPipe(pipe) || !isUpTo(m, MOST_AHEAD) || !isPlace(place) || !isUpTo(heard, 1)) {
            return refuseBad();
        }
        if (!now.addReading(pipe, m, place, heard)) {
            return refuseFull();
        }
        return now.readings;
    }

    public int forget() {
        int had = now.readings;
        now.readings = 0;
        return had;
    }

    public int may(int pipe) {
        if (!isPipe(pipe)) {
            return refuseBad();
        }
        return kindsThatMayBe(pipe);
    }

    public int listen(int pipe, int m) {
        if (!isPipe(pipe) || !isUpTo(m, MOST_AHEAD)) {
            return refuseBad();
        }
        int kindBits = kindsThatMayBe(pipe);
        if (kindBits == 0) {
            return NONE;
        }
        tryKinds(pipe, m);
        int best = NONE;
        int least = KINDS + 1;
        for (int place = 0; place < now.places; place++) {
            int part = greaterPart(kindBits, place);
            if (part < least) {
                least = part;
                best = place;
            }
        }
        return best;
    }

    public int wish(int place, int m) {
        if (!isPlace(place) || !isUpTo(m, MOST_AHEAD)) {
            return refuseBad();
        }
        int best = 0;
        int fewestAway = PIPES + 1;
        for (int tone = 0; tone < TONES; tone++) {
            trial.takeStage(now);
            trial.wishTone(place, tone);
            tryHours(m);
            int gone = trial.howManyAway();
            if (gone < fewestAway) {
                fewestAway = gone;
                best = tone;
            }
        }
        return best;
    }

    public int feast(int hymn, int shift, int c) {
        if (!isHymn(hymn) || !isShift(shift) || !isUpTo(c, MOST_CHANCE)) {
            return refuseBad();
        }
        long church = now.notesInChurch();
        long good = 1;
        long all = 1;
        for (int i = 0; i < now.hymnCounts[hymn]; i++) {
            int note = now.hymnNote(hymn, i) + shift;
            if (!hasNote(church, note) && now.isFirstOfItsNote(hymn, i)) {
                int pipes = now.howManyAwayOf(note);
                // it is missing only if each of them stays away
                good *= power(MOST_CHANCE, pipes) - power(MOST_CHANCE - c, pipes);
                all *= power(MOST_CHANCE, pipes);
            }
        }
        setFraction(good, all);
        return 1;
    }

    public int hours(int seed, int n) {
        if (!isUpTo(seed, MOST_SEED) || !isUpTo(n, MOST_SEEDED)) {
            return refuseBad();
        }
        if (now.pipes == 0) {
            return NONE;
        }
        trial.takeStage(now);
        long x = seed;
        for (int i = 0; i < n; i++) {
            x = (x * 1103515245L + 12345L) % 2147483648L;
            trial.bringHome((int) (x / 65536L % now.pipes));
            trial.letHourGoBy(kinds);
        }
        return trial.howManyAway();
    }

    // ---- what there is

    public long part(int what) {
        if (!isUpTo(what, 1)) {
            return refuseBad();
        }
        return what == 0 ? above : below;
    }

    public int image(int i) {
        if (!isUpTo(i, IMAGES - 1)) {
            return refuseBad();
        }
        images[i].takeAll(now);
        kept[i] = true;
        return 1;
    }

    public int from(int i) {
        if (!isUpTo(i, IMAGES - 1)) {
            return refuseBad();
        }
        if (!kept[i]) {
            return refuseNo();
        }
        now.takeAll(images[i]);
        return 1;
    }

    public int status(int what) {
        switch (what) {
            case 0:
                return refusedBad;
            case 1:
                return refusedNo;
            case 2:
                return refusedFull;
            default:
                refuseBad();
                return -1;
        }
    }

    public int count(int what) {
        if (!isUpTo(what, 6)) {
            return refuseBad();
        }
        return howMany(what);
    }

    public long digest() {
        long h = 983;
        for (int what = 0; what <= 6; what++) {
            h = 31 * h + howMany(what);
        }
        h = now.digestOn(h);
        h = 31 * h + above;
        return 31 * h + below;
    }

    // ---- what the calls share

    private static boolean isUpTo(int number, int most) {
        return number >= 0 && number <= most;
    }

    private static boolean isHymn(int hymn) {
        return isUpTo(hymn, HYMNS - 1);
    }

    private static boolean isShift(int shift) {
        return shift >= -MOST_SHIFT && shift <= MOST_SHIFT;
    }

    private boolean isPipe(int pipe) {
        return isUpTo(pipe, now.pipes - 1);
    }

    private boolean isPlace(int place) {
        return isUpTo(place, now.places - 1);
    }

    private int refuseBad() {
        refusedBad++;
        return BAD;
    }

    private int refuseBadTen() {
        refusedBad++;
        return BAD_TEN;
    }

    private int refuseNo() {
        refusedNo++;
        return NO;
    }

    private int refuseFull() {
        refusedFull++;
        return FULL;
    }

    private void tryHours(int m) {
        for (int i = 0; i < m; i++) {
            trial.letHourGoBy(kinds);
        }
    }

    private int kindsThatMayBe(int pipe) {
        int bits = 0;
        for (int k = 0; k < KINDS; k++) {
            trial.takeStage(now);
            trial.kind[pipe] = k;
            if (areReadingsSo()) {
                bits |= 1 << k;
            }
        }
        return bits;
    }

    /** Lets the trial's hours go by up to the last reading, no farther than they stay so. */
    private boolean areReadingsSo() {
        int last = now.lastReadingHour();
        for (int m = 0; m <= last; m++) {
            if (m > 0) {
                trial.letHourGoBy(kinds);
            }
            if (!now.agreesWith(trial, m)) {
                return false;
            }
        }
        return true;
    }

    private void tryKinds(int pipe, int m) {
        for (int k = 0; k < KINDS; k++) {
            trial.takeStage(now);
            trial.kind[pipe] = k;
            tryHours(m);
            whereByKind[k] = trial.where[pipe];
        }
    }

    private int greaterPart(int kindBits, int place) {
        int there = 0;
        for (int k = 0; k < KINDS; k++) {
            if ((kindBits >> k & 1) == 1 && whereByKind[k] == place) {
                there++;
            }
        }
        return Math.max(there, Integer.bitCount(kindBits) - there);
    }

    private void setFraction(long good, long all) {
        long divisor = greatestDivisor(all, good);
        if (divisor > 0) {
            above = good / divisor;
            below = all / divisor;
        }
    }

    private static long greatestDivisor(long a, long b) {
        // Euclid needs some forty steps for numbers of this size
        for (int i = 0; i < 100 && b != 0; i++) {
            long over = a % b;
            a = b;
            b = over;
        }
        return a;
    }

    private static long power(long base, int times) {
        long product = 1;
        for (int i = 0; i < times; i++) {
            product *= base;
        }
        return product;
    }

    private static boolean isFewer(int pipes, int than) {
        int bits = Integer.bitCount(pipes);
        int thanBits = Integer.bitCount(than);
        return bits < thanBits || bits == thanBits && pipes < than;
    }

    private static boolean hasNote(long notes, int note) {
        return note >= 0 && note < NOTES && (notes >> note & 1L) == 1L;
    }

    private int howMany(int what) {
        switch (what) {
            case 0:
                return now.pipes;
            case 1:
                return now.places;
            case 2:
                return now.hour;
            case 3:
                return now.howManyAway();
            case 4:
                return now.readings;
            case 5:
                return now.past.count;
            default:
                return text.count;
        }
    }

    // ---- kinds of pipes, each under the one that it is most like

    private static class Plain {
        boolean mayGo(Organ organ, int pipe) {
            return true;
        }

        boolean comesBack(Organ organ, int pipe) {
            return !organ.isWished(organ.where[pipe]);
        }
    }

    private static class Reed extends Plain {
        boolean comesBack(Organ organ, int pipe) {
            return organ.away[pipe] >= 3 && super.comesBack(organ, pipe);
        }
    }

    private static class Flute extends Plain {
        boolean mayGo(Organ organ, int pipe) {
            return organ.isAnotherAway(pipe);
        }
    }

    private static final class Bourdon extends Reed {
        boolean mayGo(Organ organ, int pipe) {
            return organ.isNight() && super.mayGo(organ, pipe);
        }
    }

    private static final class Homesick extends Plain {
        boolean comesBack(Organ organ, int pipe) {
            return organ.away[pipe] >= 2 || super.comesBack(organ, pipe);
        }
    }

    private static final class NightFlute extends Flute {
        boolean mayGo(Organ organ, int pipe) {
            return organ.isNight() && super.mayGo(organ, pipe);
        }

        boolean comesBack(Organ organ, int pipe) {
            return false;
        }
    }

    /** All that an image keeps: the hour, places, pipes, hymns, readings, and what may be undone. */
    private static final class Organ {
        int hour, places, pipes, readings;
        final int[] placeRows = new int[PLACES * PLACE_ROW];
        final int[] kind = new int[PIPES];
        final int[] note = new int[PIPES];
        final int[] where = new int[PIPES];
        final int[] away = new int[PIPES];
        final int[] hymnCounts = new int[HYMNS];
        final int[] hymnRows = new int[HYMNS * HYMN_NOTES];
        final int[] readingRows = new int[READINGS * READING_ROW];
        final Past past = new Past();

        void reset() {
            hour = 0;
            places = 0;
            pipes = 0;
            readings = 0;
            for (int hymn = 0; hymn < HYMNS; hymn++) {
                emptyHymn(hymn);
            }
            past.reset();
        }

        /** Takes over what hours need to go by, and no more: looking ahead does it often. */
        void takeStage(Organ other) {
            hour = other.hour;
            places = other.places;
            pipes = other.pipes;
            System.arraycopy(other.placeRows, 0, placeRows, 0, PLACES * PLACE_ROW);
            System.arraycopy(other.kind, 0, kind, 0, PIPES);
            System.arraycopy(other.note, 0, note, 0, PIPES);
            System.arraycopy(other.where, 0, where, 0, PIPES);
            System.arraycopy(other.away, 0, away, 0, PIPES);
        }

        void takeAll(Organ other) {
            takeStage(other);
            readings = other.readings;
            System.arraycopy(other.hymnCounts, 0, hymnCounts, 0, HYMNS);
            System.arraycopy(other.hymnRows, 0, hymnRows, 0, HYMNS * HYMN_NOTES);
            System.arraycopy(other.readingRows, 0, readingRows, 0, READINGS * READING_ROW);
            past.takeOver(other.past);
        }

        boolean addPlace(int tone, int from, int n, int east, int north) {
            if (places >= PLACES) {
                return false;
            }
            int row = places * PLACE_ROW;
            placeRows[row] = tone;
            placeRows[row + 1] = from;
            placeRows[row + 2] = n;
            placeRows[row + 3] = east;
            placeRows[row + 4] = north;
            places++;
            return true;
        }

        boolean addPipe(int pipeKind, int pipeNote) {
            if (pipes >= PIPES) {
                return false;
            }
            kind[pipes] = pipeKind;
            note[pipes] = pipeNote;
            bringHome(pipes);
            pipes++;
            return true;
        }

        boolean addNote(int hymn, int n) {
            int had = hymnCounts[hymn];
            if (had >= HYMN_NOTES) {
                return false;
            }
            hymnRows[hymn * HYMN_NOTES + had] = n;
            hymnCounts[hymn] = had + 1;
            return true;
        }

        void emptyHymn(int hymn) {
            hymnCounts[hymn] = 0;
        }

        boolean addReading(int pipe, int m, int place, int heard) {
            if (readings >= READINGS) {
                return false;
            }
            int row = readings * READING_ROW;
            readingRows[row] = pipe;
            readingRows[row + 1] = m;
            readingRows[row + 2] = place;
            readingRows[row + 3] = heard;
            readings++;
            return true;
        }

        void bringHome(int pipe) {
            where[pipe] = NONE;
            away[pipe] = 0;
        }

        void letHourGoBy(Plain[] kinds) {
            hour++;
            for (int pipe = 0; pipe < pipes; pipe++) {
                Plain rule = ruleOf(pipe, kinds);
                if (where[pipe] == NONE) {
                    if (rule.mayGo(this, pipe)) {
                        sendOut(pipe);
                    }
                } else {
                    away[pipe]++;
                    if (rule.comesBack(this, pipe)) {
                        bringHome(pipe);
                    }
                }
            }
        }

        private void sendOut(int pipe) {
            int tone = note[pipe] % TONES;
            for (int place = 0; place < places; place++) {
                if (toneWishedAt(place) == tone && isWished(place) && pipesAt(place) == 0) {
                    where[pipe] = place;
                    away[pipe] = 0;
                    return;
                }
            }
        }

        boolean wouldGo(int pipe, Plain[] kinds) {
            return ruleOf(pipe, kinds).mayGo(this, pipe);
        }

        private Plain ruleOf(int pipe, Plain[] kinds) {
            int number = kind[pipe];
            return number > 0 && number < kinds.length ? kinds[number] : kinds[0];
        }

        boolean isNight() {
            int clock = hour % CLOCK;
            return clock >= 18 || clock < 6;
        }

        boolean isWished(int place) {
            if (place < 0 || place >= places) {
                return false;
            }
            int row = place * PLACE_ROW;
            return (hour % CLOCK + CLOCK - placeRows[row + 1]) % CLOCK < placeRows[row + 2];
        }

        int toneWishedAt(int place) {
            return placeRows[place * PLACE_ROW];
        }

        void wishTone(int place, int tone) {
            placeRows[place * PLACE_ROW] = tone;
        }

        boolean isAnotherAway(int pipe) {
            for (int other = 0; other < pipes; other++) {
                if (other != pipe && where[other] != NONE) {
                    return true;
                }
            }
            return false;
        }

        int howManyAway() {
            int gone = 0;
            for (int pipe = 0; pipe < pipes; pipe++) {
                if (where[pipe] != NONE) {
                    gone++;
                }
            }
            return gone;
        }

        int howManyAwayOf(int pipeNote) {
            int gone = 0;
            for (int pipe = 0; pipe < pipes; pipe++) {
                if (where[pipe] != NONE && note[pipe] == pipeNote) {
                    gone++;
                }
            }
            return gone;
        }

        int pipesAt(int place) {
            int bits = 0;
            for (int pipe = 0; pipe < pipes; pipe++) {
                if (where[pipe] == place) {
                    bits |= 1 << pipe;
                }
            }
            return bits;
        }

        /** The places (bits) where pipes (bits) are. */
        int placesOf(int pipeBits) {
            int bits = 0;
            for (int pipe = 0; pipe < pipes; pipe++) {
                if ((pipeBits >> pipe & 1) == 1 && where[pipe] != NONE) {
                    bits |= 1 << where[pipe];
                }
            }
            return bits;
        }

        /** Between two places; NONE is the church. */
        int howFar(int a, int b) {
            return Math.abs(eastOf(a) - eastOf(b)) + Math.abs(northOf(a) - northOf(b));
        }

        private int eastOf(int place) {
            return place == NONE ? 0 : placeRows[place * PLACE_ROW + 3];
        }

        private int northOf(int place) {
            return place == NONE ? 0 : placeRows[place * PLACE_ROW + 4];
        }

        /** The notes (bits) of the pipes that are in the church. */
        long notesInChurch() {
            long bits = 0;
            for (int pipe = 0; pipe < pipes; pipe++) {
                if (where[pipe] == NONE) {
                    bits |= 1L << note[pipe];
                }
            }
            return bits;
        }

        int hymnNote(int hymn, int i) {
            return hymnRows[hymn * HYMN_NOTES + i];
        }

        boolean isFirstOfItsNote(int hymn, int i) {
            for (int earlier = 0; earlier < i; earlier++) {
                if (hymnNote(hymn, earlier) == hymnNote(hymn, i)) {
                    return false;
                }
            }
            return true;
        }

        int howManyPlayed(int hymn, int shift, long church) {
            int played = 0;
            for (int i = 0; i < hymnCounts[hymn]; i++) {
                if (hasNote(church, hymnNote(hymn, i) + shift)) {
                    played++;
                }
            }
            return played;
        }

        boolean canBeWhole(int hymn, long church) {
            for (int shift = -MOST_SHIFT; shift <= MOST_SHIFT; shift++) {
                if (howManyPlayed(hymn, shift, church) == hymnCounts[hymn]) {
                    return true;
                }
            }
            return false;
        }

        /** For each note that is not played the first pipe of it: fewer, or less, can not do. NONE: not by this shift. */
        int pipesToFetch(int hymn, int shift, long church) {
            int bits = 0;
            for (int i = 0; i < hymnCounts[hymn]; i++) {
                int wanted = hymnNote(hymn, i) + shift;
                if (!hasNote(church, wanted)) {
                    int pipe = firstOfNote(wanted);
                    if (pipe == NONE) {
                        return NONE;
                    }
                    bits |= 1 << pipe;
                }
            }
            return bits;
        }

        private int firstOfNote(int wanted) {
            for (int pipe = 0; pipe < pipes; pipe++) {
                if (note[pipe] == wanted) {
                    return pipe;
                }
            }
            return NONE;
        }

        /** NONE: there are no readings. */
        int lastReadingHour() {
            int last = NONE;
            for (int i = 0; i < readings; i++) {
                last = Math.max(last, readingRows[i * READING_ROW + 1]);
            }
            return last;
        }

        /** Whether the readings for m hours from now are so, if the other one is how it is then. */
        boolean agreesWith(Organ other, int m) {
            for (int i = 0; i < readings; i++) {
                int row = i * READING_ROW;
                if (readingRows[row + 1] == m) {
                    boolean isThere = other.isAt(readingRows[row], readingRows[row + 2]);
                    if (isThere != (readingRows[row + 3] == 1)) {
                        return false;
                    }
                }
            }
            return true;
        }

        private boolean isAt(int pipe, int place) {
            return pipe >= 0 && pipe < pipes && where[pipe] == place;
        }

        long digestOn(long h) {
            h = digestRow(h, placeRows, 0, places * PLACE_ROW);
            for (int pipe = 0; pipe < pipes; pipe++) {
                h = 31 * h + kind[pipe];
                h = 31 * h + note[pipe];
                h = 31 * h + where[pipe];
                h = 31 * h + away[pipe];
            }
            for (int hymn = 0; hymn < HYMNS; hymn++) {
                h = 31 * h + hymnCounts[hymn];
                h = digestRow(h, hymnRows, hymn * HYMN_NOTES, hymnCounts[hymn]);
            }
            return digestRow(h, readingRows, 0, readings * READING_ROW);
        }

        private static long digestRow(long h, int[] row, int first, int n) {
            for (int i = 0; i < n; i++) {
                h = 31 * h + row[first + i];
            }
            return h;
        }
    }

    /** The last moments that may be undone: a ring of rows, so that the oldest one makes room. */
    private static final class Past {
        int count;
        private int oldest;
        private final int[] rows = new int[UNDOS * MOMENT_ROW];

        void reset() {
            count = 0;
            oldest = 0;
        }

        void takeOver(Past other) {
            count = other.count;
            oldest = other.oldest;
            System.arraycopy(other.rows, 0, rows, 0, UNDOS * MOMENT_ROW);
        }

        void keep(Organ organ) {
            if (count == UNDOS) {
                oldest = (oldest + 1) % UNDOS;
                count--;
            }
            int row = (oldest + count) % UNDOS * MOMENT_ROW;
            rows[row] = organ.hour;
            System.arraycopy(organ.where, 0, rows, row + 1, PIPES);
            System.arraycopy(organ.away, 0, rows, row + 1 + PIPES, PIPES);
            count++;
        }

        boolean giveBack(Organ organ) {
            if (count == 0) {
                return false;
            }
            count--;
            int row = (oldest + count) % UNDOS * MOMENT_ROW;
            organ.hour = rows[row];
            System.arraycopy(rows, row + 1, organ.where, 0, PIPES);
            System.arraycopy(rows, row + 1 + PIPES, organ.away, 0, PIPES);
            return true;
        }
    }

    /** The shortest walk round places. */
    private static final class Walk {
        private static final int ALL = 1 << PLACES;
        private static final int TOO_FAR = 1000000;

        int length, first;
        /** By places still to see (bits) and where one stands: how far it is through these and home. */
        private final int[] rest = new int[ALL * PLACES];

        void find(Organ organ, int set) {
            fill(organ);
            length = 0;
            first = NONE;
            if (set == 0) {
                return;
            }
            length = TOO_FAR;
            // the least row of places begins with the least place that a shortest walk can begin with
            for (int place = 0; place < organ.places; place++) {
                if ((set >> place & 1) == 1) {
                    int far = organ.howFar(NONE, place) + rest[(set ^ (1 << place)) * PLACES + place];
                    if (far < length) {
                        length = far;
                        first = place;
                    }
                }
            }
        }

        private void fill(Organ organ) {
            int sets = 1 << organ.places;
            // a smaller set of bits is a smaller number: what is asked for is there already
            for (int set = 0; set < sets; set++) {
                for (int here = 0; here < organ.places; here++) {
                    rest[set * PLACES + here] = leastFrom(organ, set, here);
                }
            }
        }

        private int leastFrom(Organ organ, int set, int here) {
            if (set == 0) {
                return organ.howFar(here, NONE);
            }
            int least = TOO_FAR;
            for (int next = 0; next < organ.places; next++) {
                if ((set >> next & 1) == 1) {
                    int far = organ.howFar(here, next) + rest[(set ^ (1 << next)) * PLACES + next];
                    least = Math.min(least, far);
                }
            }
            return least;
        }
    }

    /** THE TEXT, and how an organ is read from it. */
    private static final class Text {
        private static final int END = 0, WORD = 1, NUMBER = 2, STOP = 3, WRONG = 4;

        int count;
        private final byte[] bytes = new byte[BYTES];
        private final int[] row = new int[PLACE_ROW];
        /** The token that is looked at: what it is, its first byte, the one behind it, its number. */
        private int sort, start, next, value;

        boolean add(int c) {
            if (count >= BYTES) {
                return false;
            }
            bytes[count] = (byte) c;
            count++;
            return true;
        }

        /** How many items; -10 less the fault. */
        int readInto(Organ organ) {
            organ.reset();
            next = 0;
            step();
            if (!isWord("organ") || !stepTo(STOP)) {
                return -10 - start;
            }
            int items = 1;
            // an item takes more than a byte
            while (items <= BYTES) {
                step();
                if (sort == END) {
                    return items;
                }
                if (!readItem(organ)) {
                    return -10 - start;
                }
                items++;
            }
            return -10 - start;
        }

        private boolean readItem(Organ organ) {
            if (isWord("place")) {
                return organ.places < PLACES && readPlace(organ);
            }
            if (isWord("pipe")) {
                return organ.pipes < PIPES && readPipe(organ);
            }
            return isWord("hymn") && readHymn(organ);
        }

        private boolean readPlace(Organ organ) {
            return readNumber(0, TONES - 1) && readNumber(1, CLOCK - 1) && readNumber(2, MOST_WISHED)
                && readNumber(3, FARTHEST) && readNumber(4, FARTHEST) && stepTo(STOP)
                && organ.addPlace(row[0], row[1], row[2], row[3], row[4]);
        }

        private boolean readPipe(Organ organ) {
            return readNumber(0, KINDS - 1) && readNumber(1, NOTES - 1) && stepTo(STOP)
                && organ.addPipe(row[0], row[1]);
        }

        private boolean readHymn(Organ organ) {
            if (!readNumber(0, HYMNS - 1)) {
                return false;
            }
            // an item tells all that the hymn has: an earlier one of the same hymn no longer stands
            organ.emptyHymn(row[0]);
            for (int i = 0; i <= HYMN_NOTES; i++) {
                step();
                if (sort == STOP) {
                    return true;
                }
                if (sort != NUMBER || value >= NOTES || !organ.addNote(row[0], value)) {
                    return false;
                }
            }
            return false;
        }

        private boolean readNumber(int i, int most) {
            step();
            if (sort != NUMBER || value > most) {
                return false;
            }
            row[i] = value;
            return true;
        }

        private boolean stepTo(int due) {
            step();
            return sort == due;
        }

        private void step() {
            while (next < count && bytes[next] == ' ') {
                next++;
            }
            start = next;
            value = 0;
            sort = END;
            while (next < count && isLetter(bytes[next])) {
                sort = WORD;
                next++;
            }
            while (sort != WORD && next < count && isFigure(bytes[next])) {
                sort = NUMBER;
                value = 10 * value + bytes[next] - '0';
                next++;
            }
            if (sort == NUMBER && next - start > 2) {
                sort = WRONG;
            }
            if (sort == END && next < count) {
                sort = bytes[next] == ';' ? STOP : WRONG;
                next++;
            }
        }

        private boolean isWord(String word) {
            if (sort != WORD || next - start != word.length()) {
                return false;
            }
            for (int i = 0; i < word.length(); i++) {
                if (bytes[start + i] != word.charAt(i)) {
                    return false;
                }
            }
            return true;
        }

        private static boolean isLetter(int c) {
            return c >= 'a' && c <= 'z';
        }

        private static boolean isFigure(int c) {
            return c >= '0' && c <= '9';
        }
    }
}
