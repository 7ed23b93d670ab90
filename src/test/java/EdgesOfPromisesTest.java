/** The sentences under Promise 1 to Promise 35 that name a boundary case: each has a test of its own. */
public final class EdgesOfPromisesTest {
    private static final String FULL_ORGAN = "place 0 0 24 1 2;place 1 3 4 30 0;place 2 0 24 0 30;place 3 0 24 0 0;"
        + "place 4 0 24 9 9;pipe 0 0;pipe 1 1;pipe 2 2;pipe 3 3;pipe 4 4;pipe 5 12;pipe 0 35;pipe 0 24;"
        + "hymn 0 0 1 2 3 4 5 6 7;hymn 1 1 1 1 1 1 1 1 1;hymn 2 35 35 35 35 35 35 35 0;";

    private static final String OTHER_ORGAN = "place 5 9 9 9 9;place 6 8 8 8 8;place 7 7 7 7 7;place 8 6 6 6 6;place 9 5 5 5 5;"
        + "pipe 4 9;pipe 3 8;pipe 2 7;pipe 1 6;pipe 0 5;pipe 3 32;pipe 5 31;pipe 1 20;"
        + "hymn 0 9 8 7 6 5 4 3 2;hymn 1 8 8 8 8 8 8 8 8;hymn 2 30 30 30 30 30 30 30 30;";

    public static void main(String[] args) throws Exception {
        Sentence.begin(args);
        newObject();
        organ();
        placeAndPipe();
        noteAndHush();
        typeAndClear();
        read();
        pass();
        fetchAndUndo();
        ofAndAt();
        thenAndLeft();
        hymns();
        walk();
        heard();
        wishAndFeast();
        hours();
        images();
        counts();
        digest();
        lastCall();
        Sentence.areSeen(1, 35);
        Sentence.end("EdgesOfPromisesTest");
    }

    /** All is full: places, pipes, hymns, readings, moments to undo. */
    private static GonePipes fullOrgan() {
        GonePipes x = Sentence.organ(FULL_ORGAN + "pass 9");
        for (int i = 0; i < 6; i++) {
            x.reading(i, 72 - i, i % 5, i % 2);
        }
        return x;
    }

    // ---- promises 1 to 9

    private static void newObject() {
        Sentence.promise(1, "As told; no PIPES, PLACES.", () -> {
            GonePipes x = new GonePipes();
            for (int what = 0; what <= 6; what++) {
                int k = what;
                Sentence.asks(x, "count(" + what + ")", () -> x.count(k), 0);
            }
            Sentence.bad(x, "at(0, 0)", () -> x.at(0, 0));
            Sentence.badTen(x, "of(0, 0)", () -> x.of(0, 0));
            Sentence.badTen(x, "then(0, 0)", () -> x.then(0, 0));
            Sentence.bad(x, "fetch(0)", () -> x.fetch(0));
            Sentence.bad(x, "may(0)", () -> x.may(0));
            Sentence.bad(x, "listen(0, 0)", () -> x.listen(0, 0));
            Sentence.bad(x, "wish(0, 0)", () -> x.wish(0, 0));
            Sentence.bad(x, "reading(0, 0, 0, 0)", () -> x.reading(0, 0, 0, 0));
            Sentence.badTen(x, "walk(1, 0)", () -> x.walk(1, 0));
        });
        Sentence.promise(1, "As told;", () -> {
            GonePipes x = new GonePipes();
            Sentence.status(x, 0, 0, 0);
            Sentence.due("part(0)", x.part(0), 0);
            Sentence.due("part(1)", x.part(1), 1);
            for (int hymn = 0; hymn < 3; hymn++) {
                Sentence.due("hush", x.hush(hymn), 0);
            }
            Sentence.no(x, "undo()", x::undo);
            Sentence.no(x, "from(0)", () -> x.from(0));
            Sentence.no(x, "from(1)", () -> x.from(1));
            Sentence.due("clear()", x.clear(), 0);
            Sentence.due("forget()", x.forget(), 0);
            Sentence.due("pass(48)", x.pass(48), 0);
        });
        Sentence.promise(1, "A new object", () -> {
            long empty = new GonePipes().digest();
            GonePipes x = fullOrgan();
            x.image(0);
            x.type(';');
            x.status(9);
            GonePipes y = new GonePipes();
            Sentence.due("beside a full one digest()", y.digest(), empty);
            Sentence.status(y, 0, 0, 0);
            Sentence.due("from(0)", y.from(0), -3);
        });
    }

    private static void organ() {
        Sentence.promise(2, "how many PIPES there were", () -> {
            GonePipes x = fullOrgan();
            Sentence.due("of 8: organ()", x.organ(), 8);
            Sentence.due("of none: organ()", x.organ(), 0);
            x.pipe(0, 0);
            Sentence.due("of 1: organ()", x.organ(), 1);
        });
        Sentence.promise(2, "All as at first", () -> {
            GonePipes x = fullOrgan();
            x.organ();
            Sentence.due("digest()", x.digest(), new GonePipes().digest());
            Sentence.no(x, "undo()", x::undo);
            Sentence.due("all may come again: place", x.place(0, 0, 0, 0, 0), 0);
            Sentence.due("pipe", x.pipe(0, 0), 0);
            Sentence.due("note", x.note(0, 0), 1);
            Sentence.due("reading", x.reading(0, 0, 0, 0), 1);
            Sentence.status(x, 0, 1, 0);
        });
        Sentence.promise(2, "(but for IMAGES, THE TEXT, THE FRACTION, STATUS)", () -> {
            GonePipes x = fullOrgan();
            x.image(1);
            x.type(200);
            x.type('a');
            x.note(0, 0);
            x.from(0);
            x.hush(1);
            x.feast(1, 0, 0);
            x.organ();
            Sentence.status(x, 1, 1, 1);
            Sentence.due("count(6)", x.count(6), 1);
            Sentence.due("part(0)", x.part(0), 1);
            Sentence.due("from(0)", x.from(0), -3);
            Sentence.due("from(1)", x.from(1), 1);
            Sentence.due("count(0)", x.count(0), 8);
        });
    }

    private static void placeAndPipe() {
        Sentence.promise(3, "A PLACE: its number. BAD; FULL: 5.", () -> {
            GonePipes x = new GonePipes();
            for (int i = 0; i < 5; i++) {
                Sentence.bad(x, "place", () -> x.place(0, 24, 0, 0, 0));
                Sentence.due("place", x.place(i, 0, 0, 0, 0), i);
            }
            Sentence.full(x, "place", () -> x.place(0, 0, 0, 0, 0));
            Sentence.full(x, "place", () -> x.place(11, 23, 24, 30, 30));
            Sentence.bad(x, "place", () -> x.place(12, 23, 24, 30, 30));
            Sentence.due("count(1)", x.count(1), 5);
        });
        Sentence.promise(4, "A PIPE: its number. BAD; FULL: 8.", () -> {
            GonePipes x = new GonePipes();
            for (int i = 0; i < 8; i++) {
                Sentence.bad(x, "pipe", () -> x.pipe(0, 36));
                Sentence.due("pipe", x.pipe(i % 6, i), i);
            }
            Sentence.full(x, "pipe", () -> x.pipe(0, 0));
            Sentence.full(x, "pipe", () -> x.pipe(5, 35));
            Sentence.bad(x, "pipe", () -> x.pipe(6, 35));
            Sentence.due("count(0)", x.count(0), 8);
        });
    }

    private static void noteAndHush() {
        Sentence.promise(5, "A NOTE behind a HYMN: how many it has. BAD; FULL: 8.", () -> {
            for (int hymn = 0; hymn < 3; hymn++) {
                int k = hymn;
                GonePipes x = new GonePipes();
                for (int i = 1; i <= 8; i++) {
                    Sentence.bad(x, "note", () -> x.note(k, 36));
                    Sentence.due("note", x.note(k, 35), i);
                }
                Sentence.full(x, "note", () -> x.note(k, 0));
                Sentence.bad(x, "note", () -> x.note(k, -1));
                Sentence.due("another one has none: note", x.note((k + 1) % 3, 0), 1);
                Sentence.due("nor the third: note", x.note((k + 2) % 3, 0), 1);
            }
        });
        Sentence.promise(6, "A HYMN is empty: how many NOTES it had. BAD.", () -> {
            GonePipes x = fullOrgan();
            Sentence.due("of 8: hush(1)", x.hush(1), 8);
            Sentence.due("of none: hush(1)", x.hush(1), 0);
            Sentence.bad(x, "hush(3)", () -> x.hush(3));
            Sentence.due("it is empty: plays(1, 0)", x.plays(1, 0), 0);
            Sentence.due("note", x.note(1, 9), 1);
            Sentence.due("the others stay: hush(0)", x.hush(0), 8);
            Sentence.due("the others stay: hush(2)", x.hush(2), 8);
            Sentence.due("of 1: hush(1)", x.hush(1), 1);
        });
    }

    private static void typeAndClear() {
        Sentence.promise(7, "comes behind THE TEXT: how many it has. BAD; FULL.", () -> {
            GonePipes x = new GonePipes();
            Sentence.bad(x, "type(128)", () -> x.type(128));
            for (int i = 1; i <= 150; i++) {
                Sentence.due("type", x.type(i % 128), i);
            }
            Sentence.full(x, "a 151st", () -> x.type(' '));
            Sentence.full(x, "a 151st", () -> x.type(127));
            Sentence.bad(x, "type(-1)", () -> x.type(-1));
            Sentence.due("count(6)", x.count(6), 150);
        });
        Sentence.promise(7, "A byte (0 .. 127)", () -> {
            GonePipes x = Sentence.typed("organ;");
            Sentence.due("read()", x.read(), 1);
            Sentence.due("the least: type(0)", x.type(0), 7);
            Sentence.due("it begins no token: read()", x.read(), -16);
            x.clear();
            Sentence.type(x, "organ;");
            Sentence.due("the most: type(127)", x.type(127), 7);
            Sentence.due("it begins no token: read()", x.read(), -16);
        });
        Sentence.promise(8, "THE TEXT is empty: how many it had.", () -> {
            GonePipes x = new GonePipes();
            Sentence.due("of none: clear()", x.clear(), 0);
            Sentence.type(x, "organ;" + " ".repeat(144));
            Sentence.due("of 150: clear()", x.clear(), 150);
            Sentence.due("count(6)", x.count(6), 0);
            Sentence.due("of none: clear()", x.clear(), 0);
            Sentence.due("it is empty: read()", x.read(), -10);
            Sentence.due("type", x.type('o'), 1);
            Sentence.due("what it had is gone: read()", x.read(), -10);
            Sentence.due("of 1: clear()", x.clear(), 1);
        });
    }

    private static void read() {
        Sentence.promise(9, "THE ORGAN is read: how many ITEMS.", () -> {
            GonePipes x = Sentence.typed("organ;");
            Sentence.due("the least: read()", x.read(), 1);
            Sentence.type(x, "hymn0;".repeat(24));
            Sentence.due("the most: read()", x.read(), 25);
            Sentence.due("count(6)", x.count(6), 150);
        });
        Sentence.promise(9, "-10 less the FAULT: all stays.", () -> {
            GonePipes x = fullOrgan();
            x.feast(1, 0, 0);
            Sentence.asks(x, "FAULT 0: read()", x::read, -10);
            Sentence.type(x, "organ;place 0 0 0 0 0;pipe 0 0;hymn 0 1;hymn 1 36;");
            Sentence.asks(x, "FAULT 47: read()", x::read, -10 - 47);
            x.clear();
            Sentence.type(x, "organ;" + " ".repeat(143) + "x");
            Sentence.asks(x, "FAULT 149: read()", x::read, -10 - 149);
            x.clear();
            Sentence.type(x, "organ" + " ".repeat(145));
            Sentence.asks(x, "FAULT 150: read()", x::read, -10 - 150);
            x.clear();
            Sentence.due("all stays: digest()", x.digest(), withFraction(fullOrgan()).digest());
            Sentence.due("undo()", x.undo(), 8);
        });
    }

    private static GonePipes withFraction(GonePipes x) {
        x.feast(1, 0, 0);
        return x;
    }

    // ---- promises 10 to 14

    private static void pass() {
        Sentence.promise(10, "n HOURS go by (1 .. 48)", () -> {
            GonePipes x = Sentence.organ("pipe 0 0");
            Sentence.bad(x, "pass(0)", () -> x.pass(0));
            Sentence.bad(x, "pass(49)", () -> x.pass(49));
            Sentence.bad(x, "pass(-1)", () -> x.pass(-1));
            x.pass(1);
            Sentence.due("behind pass(1) count(2)", x.count(2), 1);
            x.pass(48);
            Sentence.due("behind pass(48) count(2)", x.count(2), 49);
        });
        Sentence.promise(10, "each of which may be undone", () -> {
            GonePipes x = Sentence.organ("pipe 0 0");
            x.pass(1);
            Sentence.due("count(5)", x.count(5), 1);
            x.pass(2);
            Sentence.due("count(5)", x.count(5), 3);
            Sentence.due("undo()", x.undo(), 2);
            Sentence.due("undo()", x.undo(), 1);
            x.pass(48);
            Sentence.due("count(5)", x.count(5), 8);
            Sentence.due("undo()", x.undo(), 48);
            Sentence.due("undo()", x.undo(), 47);
        });
        Sentence.promise(10, "how many PIPES are in the church. BAD.", () -> {
            GonePipes x = new GonePipes();
            Sentence.due("no PIPES: pass(48)", x.pass(48), 0);
            Sentence.put(x, "place 0 0 24 0 0;pipe 0 0");
            Sentence.due("none: pass(1)", x.pass(1), 0);
            Sentence.put(x, "pipe 0 1;pipe 0 1;pipe 0 1;pipe 0 1;pipe 0 1;pipe 0 1;pipe 0 1");
            Sentence.due("7 of 8: pass(1)", x.pass(1), 7);
            x.organ();
            Sentence.put(x, "pipe 0 1;pipe 0 1;pipe 0 1;pipe 0 1;pipe 0 1;pipe 0 1;pipe 0 1;pipe 0 1");
            Sentence.due("all: pass(1)", x.pass(1), 8);
        });
    }

    private static void fetchAndUndo() {
        Sentence.promise(11, "A PIPE is fetched: the PLACE where it was.", () -> {
            GonePipes x = Sentence.organ("place 0 0 24 0 0;place 1 0 24 0 0;place 2 0 24 0 0;place 3 0 24 0 0;place 4 0 24 0 0;"
                + "pipe 0 4;pipe 0 5;pipe 0 5;pipe 0 5;pipe 0 5;pipe 0 5;pipe 0 5;pipe 0 0;pass 1");
            Sentence.due("the last PIPE from the first PLACE: fetch(7)", x.fetch(7), 0);
            Sentence.due("the first PIPE from the last PLACE: fetch(0)", x.fetch(0), 4);
            Sentence.due("of(7, 2)", x.of(7, 2), -1);
            Sentence.due("of(7, 3)", x.of(7, 3), 0);
            Sentence.due("count(3)", x.count(3), 0);
            Sentence.due("the HOUR stays: count(2)", x.count(2), 1);
        });
        Sentence.promise(11, "BAD; NO: it is in the church.", () -> {
            GonePipes x = Sentence.organ("place 0 0 24 0 0;pipe 0 0");
            Sentence.no(x, "fetch(0)", () -> x.fetch(0));
            x.pass(1);
            Sentence.due("fetch(0)", x.fetch(0), 0);
            Sentence.no(x, "once more: fetch(0)", () -> x.fetch(0));
            Sentence.bad(x, "fetch(1)", () -> x.fetch(1));
            Sentence.bad(x, "fetch(-1)", () -> x.fetch(-1));
            x.organ();
            Sentence.bad(x, "no PIPES: fetch(0)", () -> x.fetch(0));
        });
        Sentence.promise(12, "UNDO: the HOUR then.", () -> {
            GonePipes x = Sentence.organ("place 0 0 24 0 0;pipe 0 0;pass 1");
            x.fetch(0);
            Sentence.due("undo()", x.undo(), 1);
            Sentence.due("of(0, 2)", x.of(0, 2), 0);
            Sentence.due("to HOUR 0: undo()", x.undo(), 0);
            Sentence.due("of(0, 2)", x.of(0, 2), -1);
        });
        Sentence.promise(12, "NO: none may be.", () -> {
            GonePipes x = new GonePipes();
            Sentence.no(x, "undo()", x::undo);
            x.pass(9);
            for (int i = 0; i < 8; i++) {
                Sentence.due("undo()", x.undo(), 8 - i);
            }
            Sentence.no(x, "undo()", x::undo);
            Sentence.due("count(2)", x.count(2), 1);
        });
    }

    private static void ofAndAt() {
        Sentence.promise(13, "where it is (2; NONE: the church), for how many HOURS it is AWAY (3; 0)", () -> {
            GonePipes x = Sentence.organ("place 1 0 24 0 0;place 0 0 24 0 0;pipe 0 0");
            Sentence.asks(x, "of(0, 2)", () -> x.of(0, 2), -1);
            Sentence.asks(x, "of(0, 3)", () -> x.of(0, 3), 0);
            x.pass(1);
            Sentence.asks(x, "of(0, 2)", () -> x.of(0, 2), 1);
            Sentence.asks(x, "of(0, 3)", () -> x.of(0, 3), 0);
            x.pass(1);
            Sentence.asks(x, "of(0, 3)", () -> x.of(0, 3), 1);
            x.fetch(0);
            Sentence.asks(x, "of(0, 2)", () -> x.of(0, 2), -1);
            Sentence.asks(x, "of(0, 3)", () -> x.of(0, 3), 0);
        });
        Sentence.promise(13, "whether it would go, were its TONE WISHED now (4; 1, 0)", () -> {
            GonePipes x = Sentence.organ("pipe 0 0;pipe 1 0;pipe 2 0;pipe 3 0;pipe 4 0;pipe 5 0");
            int[] night = {1, 1, 0, 1, 1, 0};
            int[] day = {1, 1, 0, 0, 1, 0};
            for (int i = 0; i < 6; i++) {
                Sentence.due("without a PLACE of(" + i + ", 4)", x.of(i, 4), night[i]);
            }
            x.pass(6);
            for (int i = 0; i < 6; i++) {
                Sentence.due("without a PLACE, by day of(" + i + ", 4)", x.of(i, 4), day[i]);
            }
        });
        Sentence.promise(13, "BAD: -10.", () -> {
            GonePipes x = fullOrgan();
            Sentence.badTen(x, "of(8, 0)", () -> x.of(8, 0));
            Sentence.badTen(x, "of(-1, 0)", () -> x.of(-1, 0));
            Sentence.badTen(x, "of(0, 5)", () -> x.of(0, 5));
            Sentence.badTen(x, "of(0, -1)", () -> x.of(0, -1));
            Sentence.badTen(x, "of(8, 5)", () -> x.of(8, 5));
            Sentence.asks(x, "of(7, 1)", () -> x.of(7, 1), 24);
        });
        Sentence.promise(14, "whether it is WISHED now (1; 1, 0), PIPES there (2; bits), how far it is from the church (3)", () -> {
            GonePipes x = Sentence.organ("place 0 0 1 0 0;place 1 1 24 30 30;pipe 0 2;pipe 0 2;pipe 0 2;pipe 0 2;pipe 0 2;"
                + "pipe 0 2;pipe 0 2;pipe 0 1");
            Sentence.asks(x, "at(0, 1)", () -> x.at(0, 1), 1);
            Sentence.asks(x, "no PIPES: at(1, 2)", () -> x.at(1, 2), 0);
            Sentence.asks(x, "the nearest: at(0, 3)", () -> x.at(0, 3), 0);
            Sentence.asks(x, "the farthest: at(1, 3)", () -> x.at(1, 3), 60);
            x.pass(1);
            Sentence.asks(x, "at(0, 1)", () -> x.at(0, 1), 0);
            Sentence.asks(x, "the last PIPE: at(1, 2)", () -> x.at(1, 2), 128);
            Sentence.asks(x, "no PIPES: at(0, 2)", () -> x.at(0, 2), 0);
            Sentence.bad(x, "at(2, 0)", () -> x.at(2, 0));
            Sentence.bad(x, "at(-1, 2)", () -> x.at(-1, 2));
            Sentence.bad(x, "at(0, 4)", () -> x.at(0, 4));
            Sentence.bad(x, "at(0, -1)", () -> x.at(0, -1));
        });
    }

    // ---- promises 15 to 22

    private static void thenAndLeft() {
        Sentence.promise(15, "NONE: the church. BAD: -10.", () -> {
            GonePipes x = Sentence.organ("place 0 2 1 0 0;pipe 0 0");
            Sentence.asks(x, "then(1, 0)", () -> x.then(1, 0), -1);
            Sentence.asks(x, "then(2, 0)", () -> x.then(2, 0), 0);
            Sentence.asks(x, "then(3, 0)", () -> x.then(3, 0), -1);
            Sentence.badTen(x, "then(73, 0)", () -> x.then(73, 0));
            Sentence.badTen(x, "then(-1, 0)", () -> x.then(-1, 0));
            Sentence.badTen(x, "then(0, 1)", () -> x.then(0, 1));
            Sentence.badTen(x, "then(0, -1)", () -> x.then(0, -1));
        });
        Sentence.promise(16, "how many are in the church. BAD.", () -> {
            GonePipes x = new GonePipes();
            Sentence.asks(x, "no PIPES: left(0)", () -> x.left(0), 0);
            Sentence.bad(x, "left(73)", () -> x.left(73));
            Sentence.bad(x, "left(-1)", () -> x.left(-1));
            Sentence.put(x, "place 0 2 1 0 0;pipe 0 0;pipe 0 1");
            Sentence.asks(x, "all: left(1)", () -> x.left(1), 2);
            Sentence.asks(x, "one goes: left(2)", () -> x.left(2), 1);
            Sentence.asks(x, "it is back: left(3)", () -> x.left(3), 2);
            x.pass(3);
            Sentence.asks(x, "from now: left(23)", () -> x.left(23), 1);
        });
    }

    private static void hymns() {
        Sentence.promise(17, "PLAYS. BAD.", () -> {
            GonePipes x = Sentence.organ(FULL_ORGAN);
            Sentence.asks(x, "none: plays(1, -6)", () -> x.plays(1, -6), 0);
            Sentence.asks(x, "all 8: plays(1, 0)", () -> x.plays(1, 0), 8);
            Sentence.bad(x, "plays(3, 0)", () -> x.plays(3, 0));
            Sentence.bad(x, "plays(-1, 0)", () -> x.plays(-1, 0));
            Sentence.bad(x, "plays(0, 7)", () -> x.plays(0, 7));
            Sentence.bad(x, "plays(0, -7)", () -> x.plays(0, -7));
        });
        Sentence.promise(18, "BEST SHIFT (it may be below 0). BAD: -10.", () -> {
            GonePipes x = Sentence.organ("pipe 0 0;hymn 0 6;hymn 1 0;hymn 2 8");
            Sentence.asks(x, "the lowest: best(0)", () -> x.best(0), -6);
            Sentence.asks(x, "best(1)", () -> x.best(1), 0);
            Sentence.asks(x, "by none: best(2)", () -> x.best(2), 0);
            Sentence.badTen(x, "best(3)", () -> x.best(3));
            Sentence.badTen(x, "best(-1)", () -> x.best(-1));
        });
        Sentence.promise(19, "MISSING, as bits. BAD.", () -> {
            GonePipes x = Sentence.organ("hymn 0 0 1 2 3 4 5 6 7;hymn 1 8 9 10 11 20 21 22 23");
            Sentence.asks(x, "missing(0, 0)", () -> x.missing(0, 0), 255);
            Sentence.asks(x, "missing(1, 6)", () -> x.missing(1, 6), 15 << 8);
            Sentence.asks(x, "an empty hymn: missing(2, -6)", () -> x.missing(2, -6), 0);
            Sentence.bad(x, "missing(3, 0)", () -> x.missing(3, 0));
            Sentence.bad(x, "missing(0, 7)", () -> x.missing(0, 7));
            Sentence.bad(x, "missing(0, -7)", () -> x.missing(0, -7));
        });
        Sentence.promise(20, "FETCH ALL, as bits. NONE. BAD.", () -> {
            GonePipes x = Sentence.organ("place 0 0 24 0 0;place 1 0 24 0 0;place 2 0 24 0 0;place 3 0 24 0 0;place 4 0 24 0 0;"
                + "pipe 0 10;pipe 0 10;pipe 0 10;pipe 0 0;pipe 0 1;pipe 0 2;pipe 0 3;pipe 0 4;hymn 0 0 1 2 3 4;hymn 1 0 5;pass 1");
            Sentence.asks(x, "five: fetchAll(0)", () -> x.fetchAll(0), 31 << 3);
            Sentence.asks(x, "fetchAll(1)", () -> x.fetchAll(1), -1);
            Sentence.asks(x, "fetchAll(2)", () -> x.fetchAll(2), 0);
            Sentence.bad(x, "fetchAll(3)", () -> x.fetchAll(3));
            Sentence.bad(x, "fetchAll(-1)", () -> x.fetchAll(-1));
        });
        Sentence.promise(21, "FALLS. NONE. BAD.", () -> {
            GonePipes x = Sentence.organ("place 0 0 1 0 0;pipe 0 0;pipe 0 6;hymn 0 0;hymn 1 0 12");
            Sentence.asks(x, "never, by 6: falls(0)", () -> x.falls(0), -1);
            Sentence.asks(x, "now: falls(1)", () -> x.falls(1), 0);
            Sentence.asks(x, "an empty hymn: falls(2)", () -> x.falls(2), -1);
            Sentence.bad(x, "falls(3)", () -> x.falls(3));
            Sentence.bad(x, "falls(-1)", () -> x.falls(-1));
        });
    }

    private static void walk() {
        Sentence.promise(22, "WALK: how far (0), GO FIRST (1; NONE). BAD: -10.", () -> {
            GonePipes x = Sentence.organ("place 0 0 24 30 30;pipe 0 0;pipe 0 1;pipe 0 1;pipe 0 1;pipe 0 1;pipe 0 1;pipe 0 1;"
                + "pipe 0 1;pass 1");
            Sentence.asks(x, "no PIPES: walk(0, 0)", () -> x.walk(0, 0), 0);
            Sentence.asks(x, "no PIPES: walk(0, 1)", () -> x.walk(0, 1), -1);
            Sentence.asks(x, "all PIPES: walk(255, 0)", () -> x.walk(255, 0), 120);
            Sentence.asks(x, "all PIPES: walk(255, 1)", () -> x.walk(255, 1), 0);
            Sentence.asks(x, "all but one: walk(254, 1)", () -> x.walk(254, 1), -1);
            Sentence.badTen(x, "walk(256, 0)", () -> x.walk(256, 0));
            Sentence.badTen(x, "walk(-1, 0)", () -> x.walk(-1, 0));
            Sentence.badTen(x, "walk(0, 2)", () -> x.walk(0, 2));
            Sentence.badTen(x, "walk(0, -1)", () -> x.walk(0, -1));
        });
    }

    // ---- promises 23 to 29

    private static void heard() {
        Sentence.promise(23, "A READING: how many there are. BAD; FULL: 6.", () -> {
            GonePipes x = Sentence.organ("place 0 0 24 0 0;pipe 0 0");
            for (int i = 1; i <= 6; i++) {
                Sentence.bad(x, "reading(0, 73, 0, 0)", () -> x.reading(0, 73, 0, 0));
                Sentence.due("reading", x.reading(0, 72, 0, 1), i);
            }
            Sentence.full(x, "reading(0, 0, 0, 0)", () -> x.reading(0, 0, 0, 0));
            Sentence.bad(x, "reading(0, 0, 0, 2)", () -> x.reading(0, 0, 0, 2));
            Sentence.bad(x, "reading(1, 0, 0, 0)", () -> x.reading(1, 0, 0, 0));
            Sentence.bad(x, "reading(0, 0, 1, 0)", () -> x.reading(0, 0, 1, 0));
        });
        Sentence.promise(24, "No READINGS: how many there were.", () -> {
            GonePipes x = fullOrgan();
            Sentence.due("of 6: forget()", x.forget(), 6);
            Sentence.due("of none: forget()", x.forget(), 0);
            Sentence.due("count(4)", x.count(4), 0);
            Sentence.due("may(0)", x.may(0), 63);
            Sentence.due("reading", x.reading(0, 0, 0, 0), 1);
            Sentence.due("of 1: forget()", x.forget(), 1);
            GonePipes y = Sentence.organ("place 0 0 24 0 0;pipe 0 0");
            y.reading(0, 1, 0, 0);
            y.reading(0, 1, 0, 1);
            Sentence.due("may(0)", y.may(0), 0);
            y.forget();
            y.reading(0, 1, 0, 0);
            Sentence.due("those forgotten do not count: may(0)", y.may(0), 4 | 32);
        });
        Sentence.promise(25, "MAY, as bits. BAD.", () -> {
            GonePipes x = Sentence.organ("place 0 0 24 0 0;pipe 0 1");
            Sentence.asks(x, "all KINDS: may(0)", () -> x.may(0), 63);
            Sentence.bad(x, "may(1)", () -> x.may(1));
            Sentence.bad(x, "may(-1)", () -> x.may(-1));
            x.reading(0, 72, 0, 1);
            Sentence.asks(x, "none: may(0)", () -> x.may(0), 0);
        });
        Sentence.promise(26, "LISTEN. NONE. BAD.", () -> {
            GonePipes x = Sentence.organ("pipe 0 0");
            Sentence.asks(x, "no PLACES: listen(0, 72)", () -> x.listen(0, 72), -1);
            Sentence.put(x, "place 1 0 24 0 0;place 1 0 24 0 0;place 1 0 24 0 0;place 1 0 24 0 0;place 0 0 24 0 0");
            Sentence.asks(x, "the last PLACE: listen(0, 1)", () -> x.listen(0, 1), 4);
            Sentence.asks(x, "the first PLACE: listen(0, 0)", () -> x.listen(0, 0), 0);
            Sentence.bad(x, "listen(1, 0)", () -> x.listen(1, 0));
            Sentence.bad(x, "listen(-1, 0)", () -> x.listen(-1, 0));
            Sentence.bad(x, "listen(0, 73)", () -> x.listen(0, 73));
            Sentence.bad(x, "listen(0, -1)", () -> x.listen(0, -1));
        });
    }

    private static void wishAndFeast() {
        Sentence.promise(27, "WISH. BAD.", () -> {
            GonePipes x = new GonePipes();
            Sentence.bad(x, "no PLACES: wish(0, 0)", () -> x.wish(0, 0));
            Sentence.put(x, "place 3 0 24 0 0");
            Sentence.asks(x, "no PIPES: wish(0, 72)", () -> x.wish(0, 72), 0);
            Sentence.bad(x, "wish(1, 0)", () -> x.wish(1, 0));
            Sentence.bad(x, "wish(-1, 0)", () -> x.wish(-1, 0));
            Sentence.bad(x, "wish(0, 73)", () -> x.wish(0, 73));
            Sentence.bad(x, "wish(0, -1)", () -> x.wish(0, -1));
            Sentence.put(x, "place 3 0 24 0 0;place 3 0 24 0 0;place 3 0 24 0 0;place 3 0 24 0 0;pipe 0 0");
            Sentence.asks(x, "the last PLACE: wish(4, 1)", () -> x.wish(4, 1), 1);
        });
        Sentence.promise(28, "FEAST is THE FRACTION: 1. BAD.", () -> {
            GonePipes x = Sentence.organ("place 0 0 24 0 0;pipe 0 0;hymn 0 0;pass 1");
            Sentence.due("feast(0, 0, 5)", x.feast(0, 0, 5), 1);
            Sentence.due("part(0)", x.part(0), 1);
            Sentence.due("part(1)", x.part(1), 2);
            Sentence.bad(x, "feast(3, 0, 0)", () -> x.feast(3, 0, 0));
            Sentence.bad(x, "feast(-1, 0, 0)", () -> x.feast(-1, 0, 0));
            Sentence.bad(x, "feast(0, 7, 0)", () -> x.feast(0, 7, 0));
            Sentence.bad(x, "feast(0, -7, 0)", () -> x.feast(0, -7, 0));
            Sentence.bad(x, "feast(0, 0, 11)", () -> x.feast(0, 0, 11));
            Sentence.bad(x, "feast(0, 0, -1)", () -> x.feast(0, 0, -1));
            Sentence.due("it stays: part(1)", x.part(1), 2);
            Sentence.due("a chance of 0: feast(0, 0, 0)", x.feast(0, 0, 0), 1);
            Sentence.due("part(0)", x.part(0), 0);
            Sentence.due("part(1)", x.part(1), 1);
        });
    }

    private static void hours() {
        Sentence.promise(29, "HOURS. NONE. BAD.", () -> {
            GonePipes x = Sentence.organ("place 0 0 24 0 0");
            Sentence.asks(x, "no PIPES: hours(0, 0)", () -> x.hours(0, 0), -1);
            Sentence.bad(x, "hours(1000000, 0)", () -> x.hours(1000000, 0));
            Sentence.bad(x, "hours(-1, 0)", () -> x.hours(-1, 0));
            Sentence.bad(x, "hours(0, 61)", () -> x.hours(0, 61));
            Sentence.bad(x, "hours(0, -1)", () -> x.hours(0, -1));
            Sentence.put(x, "pipe 0 0");
            Sentence.asks(x, "one PIPE, no HOUR: hours(999999, 0)", () -> x.hours(999999, 0), 0);
            Sentence.asks(x, "fetched ahead, it goes again: hours(999999, 60)", () -> x.hours(999999, 60), 1);
        });
    }

    // ---- promises 30 to 35

    private static void images() {
        Sentence.promise(30, "THE FRACTION: above (0), below (1). BAD.", () -> {
            GonePipes x = new GonePipes();
            Sentence.asks(x, "part(0)", () -> x.part(0), 0);
            Sentence.asks(x, "part(1)", () -> x.part(1), 1);
            Sentence.bad(x, "part(2)", () -> x.part(2));
            Sentence.bad(x, "part(-1)", () -> x.part(-1));
        });
        Sentence.promise(31, "An IMAGE is kept: 1. BAD.", () -> {
            GonePipes x = fullOrgan();
            Sentence.asks(x, "image(0)", () -> x.image(0), 1);
            Sentence.asks(x, "image(1)", () -> x.image(1), 1);
            Sentence.bad(x, "image(2)", () -> x.image(2));
            Sentence.bad(x, "image(-1)", () -> x.image(-1));
            x.organ();
            Sentence.put(x, OTHER_ORGAN + "pass 40");
            for (int i = 0; i < 6; i++) {
                x.reading(7 - i, i, 4 - i % 5, 1 - i % 2);
            }
            long other = x.digest();
            x.image(1);
            x.organ();
            Sentence.due("the newer one: from(1)", x.from(1), 1);
            Sentence.due("digest()", x.digest(), other);
            Sentence.due("the other one: from(0)", x.from(0), 1);
            Sentence.due("digest()", x.digest(), fullOrgan().digest());
        });
        Sentence.promise(32, "It goes on from an IMAGE: 1. BAD; NO: none was kept.", () -> {
            GonePipes x = new GonePipes();
            Sentence.no(x, "from(0)", () -> x.from(0));
            Sentence.no(x, "from(1)", () -> x.from(1));
            Sentence.bad(x, "from(2)", () -> x.from(2));
            Sentence.bad(x, "from(-1)", () -> x.from(-1));
            x.image(1);
            Sentence.no(x, "that one was not: from(0)", () -> x.from(0));
            Sentence.due("from(1)", x.from(1), 1);
            x.organ();
            Sentence.due("it is kept still: from(1)", x.from(1), 1);
        });
    }

    private static void counts() {
        Sentence.promise(33, "-1: another what (counts as BAD)", () -> {
            GonePipes x = new GonePipes();
            Sentence.due("status(3)", x.status(3), -1);
            Sentence.due("status(0)", x.status(0), 1);
            Sentence.due("status(-1)", x.status(-1), -1);
            Sentence.due("status(0)", x.status(0), 2);
            Sentence.due("status(0) counts itself not", x.status(0), 2);
        });
        Sentence.promise(34, "How many: 0 PIPES, 1 PLACES, 2 the HOUR, 3 PIPES AWAY, 4 READINGS, 5 that may be undone, "
            + "6 bytes of THE TEXT. BAD.", () -> {
                GonePipes x = Sentence.organ("place 0 0 24 0 0;place 1 0 24 0 0;place 2 0 24 0 0;place 3 0 24 0 0;"
                    + "place 4 0 24 0 0;pipe 0 0;pipe 0 1;pipe 0 2;pipe 0 3;pipe 0 4;pipe 0 5;pipe 0 6;pipe 0 7;pass 30");
                for (int i = 0; i < 6; i++) {
                    x.reading(0, 0, 0, 0);
                }
                Sentence.type(x, " ".repeat(150));
                int[] most = {8, 5, 30, 5, 6, 8, 150};
                for (int what = 0; what <= 6; what++) {
                    int k = what;
                    Sentence.asks(x, "count(" + what + ")", () -> x.count(k), most[what]);
                }
                Sentence.bad(x, "count(7)", () -> x.count(7));
                Sentence.bad(x, "count(-1)", () -> x.count(-1));
            });
    }

    private static long sumOf(int... values) {
        long h = 983;
        for (int v : values) {
            h = 31 * h + v;
        }
        return h;
    }

    private static void digest() {
        Sentence.promise(35, "h = 983; then h = 31 h + v for each v: count(0) to count(6)", () -> {
            GonePipes x = new GonePipes();
            long want = sumOf(0, 0, 0, 0, 0, 0, 0, 0, 0, 0, 0, 1);
            Sentence.asks(x, "of a new object digest()", x::digest, want);
            x.pass(48);
            x.type(0);
            Sentence.due("digest()", x.digest(), sumOf(0, 0, 48, 0, 0, 8, 1, 0, 0, 0, 0, 1));
        });
        Sentence.promise(35, "of PIPES KIND, NOTE, where (NONE: -1), for how long", () -> {
            GonePipes x = Sentence.organ("place 11 0 24 30 29;pipe 0 35;pipe 5 34;pass 4");
            Sentence.due("digest()", x.digest(), sumOf(2, 1, 4, 1, 0, 4, 0, 11, 0, 24, 30, 29, 0, 35, 0, 3, 5, 34, -1, 0,
                0, 0, 0, 0, 1));
        });
        Sentence.promise(35, "of HYMNS how many NOTES, and these; of READINGS PIPE, m, PLACE, heard; THE FRACTION.", () -> {
            GonePipes x = Sentence.organ("place 0 0 0 0 0;pipe 0 35;hymn 0 0;hymn 2 35 34 33 32 31 30 29 28");
            x.reading(0, 72, 0, 0);
            x.reading(0, 0, 0, 1);
            x.feast(1, 0, 0);
            x.hush(0);
            Sentence.due("digest()", x.digest(), sumOf(1, 1, 0, 0, 2, 0, 0, 0, 0, 0, 0, 0, 0, 35, -1, 0,
                0, 0, 8, 35, 34, 33, 32, 31, 30, 29, 28, 0, 72, 0, 0, 0, 0, 0, 1, 1, 1));
        });
        Sentence.promise(35, "h = 31 h + v for each v", () -> {
            GonePipes x = fullOrgan();
            // far more values than a long holds powers of 31: it wraps round
            java.math.BigInteger h = java.math.BigInteger.valueOf(983);
            for (int v : valuesOf(x)) {
                h = h.multiply(java.math.BigInteger.valueOf(31)).add(java.math.BigInteger.valueOf(v));
            }
            Sentence.asks(x, "of a full one digest()", x::digest, h.longValue());
        });
    }

    /** Of the full organ, as its calls tell them. */
    private static int[] valuesOf(GonePipes x) {
        java.util.List<Integer> values = new java.util.ArrayList<>();
        for (int what = 0; what <= 6; what++) {
            values.add(x.count(what));
        }
        int[] places = {0, 0, 24, 1, 2, 1, 3, 4, 30, 0, 2, 0, 24, 0, 30, 3, 0, 24, 0, 0, 4, 0, 24, 9, 9};
        add(values, places);
        for (int pipe = 0; pipe < 8; pipe++) {
            add(values, x.of(pipe, 0), x.of(pipe, 1), x.of(pipe, 2), x.of(pipe, 3));
        }
        add(values, 8, 0, 1, 2, 3, 4, 5, 6, 7);
        add(values, 8, 1, 1, 1, 1, 1, 1, 1, 1);
        add(values, 8, 35, 35, 35, 35, 35, 35, 35, 0);
        for (int i = 0; i < 6; i++) {
            add(values, i, 72 - i, i % 5, i % 2);
        }
        add(values, 0, 1);
        return values.stream().mapToInt(v -> v).toArray();
    }

    private static void add(java.util.List<Integer> values, int... more) {
        for (int v : more) {
            values.add(v);
        }
    }

    private static void lastCall() {
        Sentence.whole("An object is used for at most 512 calls after it has been made", () -> {
            GonePipes x = new GonePipes();
            x.place(0, 0, 1, 0, 0);
            x.pipe(0, 0);
            for (int i = 3; i < 511; i++) {
                x.pass(48);
            }
            // 508 times 48 hours
            Sentence.due("the 511th: at(0, 1)", x.at(0, 1), 1);
            Sentence.due("the 512th: count(2)", x.count(2), 24384);
            GonePipes y = new GonePipes();
            for (int i = 1; i < 512; i++) {
                y.status(3);
            }
            Sentence.due("the 512th: status(0)", y.status(0), 511);
        });
    }
}
