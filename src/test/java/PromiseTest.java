/** By hand, promise by promise: ordinary inputs, the edges that the document names, wrong inputs. */
public final class PromiseTest {
    private static int wrong = 0;

    private static void due(int promise, String what, long got, long want) {
        if (got != want) {
            wrong++;
            System.out.println("promise " + promise + ": " + what + " answered " + got + ", due is " + want);
        }
    }

    /** The text afresh, then read. */
    private static int told(GonePipes x, String text) {
        x.clear();
        for (int i = 0; i < text.length(); i++) {
            x.type(text.charAt(i));
        }
        return x.read();
    }

    private static GonePipes organOf(String text) {
        GonePipes x = new GonePipes();
        int answer = told(x, text);
        if (answer < 1) {
            due(9, text, answer, 1);
        }
        return x;
    }

    private static void refused(GonePipes x, int promise, String what, int bad, int no, int full) {
        due(promise, what + ": BAD", x.status(0), bad);
        due(promise, what + ": NO", x.status(1), no);
        due(promise, what + ": FULL", x.status(2), full);
    }

    private static String bits(int of, int shift) {
        return " (" + of + ", " + shift + ")";
    }

    public static void main(String[] args) {
        newObject();
        organ();
        place();
        pipe();
        noteAndHush();
        typeAndClear();
        readWell();
        readHymnAgain();
        readFaults();
        readTakesThePlace();
        wishedHours();
        plainGoes();
        reed();
        flute();
        bourdon();
        homesick();
        nightFlute();
        passAnswers();
        fetchAndUndo();
        undoIsCutOff();
        ofAndAt();
        thenAndLeft();
        hymnsPlayed();
        fetchAll();
        falls();
        walk();
        readingsMay();
        listen();
        wish();
        feast();
        hours();
        images();
        statusAndCount();
        digest();
        nothingIsChanged();
        if (wrong != 0) {
            System.exit(1);
        }
    }

    private static void newObject() {
        GonePipes x = new GonePipes();
        for (int what = 0; what <= 6; what++) {
            due(1, "count" + what, x.count(what), 0);
        }
        due(1, "part(0)", x.part(0), 0);
        due(1, "part(1)", x.part(1), 1);
        refused(x, 1, "new", 0, 0, 0);
        due(1, "from(0)", x.from(0), -3);
        due(1, "from(1)", x.from(1), -3);
        due(1, "NONE", GonePipes.NONE, -1);
        due(1, "BAD", GonePipes.BAD, -2);
        due(1, "NO", GonePipes.NO, -3);
        due(1, "FULL", GonePipes.FULL, -4);
    }

    private static void organ() {
        GonePipes x = organOf("organ;place 0 0 24 3 4;pipe 0 0;pipe 0 1;hymn 0 5;");
        x.pass(2);
        x.reading(0, 1, 0, 1);
        x.feast(0, 0, 5);
        x.image(1);
        x.type(200);
        int bytes = x.count(6);
        due(2, "organ()", x.organ(), 2);
        for (int what = 0; what <= 5; what++) {
            due(2, "count" + what, x.count(what), 0);
        }
        due(2, "THE TEXT stays", x.count(6), bytes);
        due(2, "hymn", x.hush(0), 0);
        due(2, "THE FRACTION stays", x.part(0), 0);
        due(2, "THE FRACTION stays", x.part(1), 1);
        refused(x, 2, "stays", 1, 0, 0);
        due(2, "undo()", x.undo(), -3);
        due(2, "IMAGES stay", x.from(1), 1);
        due(2, "PIPES", x.count(0), 2);
        due(2, "organ()", x.organ(), 2);
        due(2, "organ()", x.organ(), 0);
    }

    private static void place() {
        GonePipes x = new GonePipes();
        int[] most = {11, 23, 24, 30, 30};
        for (int i = 0; i < 5; i++) {
            int[] n = {0, 0, 0, 0, 0};
            n[i] = most[i] + 1;
            due(3, "above", x.place(n[0], n[1], n[2], n[3], n[4]), -2);
            n[i] = -1;
            due(3, "below", x.place(n[0], n[1], n[2], n[3], n[4]), -2);
        }
        due(3, "the most", x.place(11, 23, 24, 30, 30), 0);
        due(3, "the least", x.place(0, 0, 0, 0, 0), 1);
        for (int i = 2; i < 5; i++) {
            due(3, "next", x.place(i, 0, 1, 0, 0), i);
        }
        due(3, "6th", x.place(0, 0, 0, 0, 0), -4);
        due(3, "BAD ahead of FULL", x.place(12, 0, 0, 0, 0), -2);
        due(3, "PLACES", x.count(1), 5);
        due(3, "TONE", x.at(0, 0), 11);
        due(3, "TONE", x.at(4, 0), 4);
        refused(x, 3, "place", 11, 0, 1);
    }

    private static void pipe() {
        GonePipes x = new GonePipes();
        due(4, "kind", x.pipe(6, 0), -2);
        due(4, "kind", x.pipe(-1, 0), -2);
        due(4, "note", x.pipe(0, 36), -2);
        due(4, "note", x.pipe(0, -1), -2);
        due(4, "none came", x.count(0), 0);
        for (int i = 0; i < 8; i++) {
            due(4, "pipe", x.pipe(i % 6, i == 0 ? 35 : i), i);
        }
        due(4, "9th", x.pipe(0, 0), -4);
        due(4, "BAD ahead of FULL", x.pipe(0, 36), -2);
        due(4, "NOTE", x.of(0, 1), 35);
        due(4, "KIND", x.of(5, 0), 5);
        due(4, "in the church", x.of(7, 2), -1);
        refused(x, 4, "pipe", 5, 0, 1);
        x.organ();
        x.place(5, 0, 24, 0, 0);
        x.pipe(0, 5);
        x.pass(1);
        due(4, "away", x.of(0, 2), 0);
        due(4, "a pipe behind it", x.pipe(0, 5), 1);
        due(4, "is in the church", x.of(1, 2), -1);
        x.organ();
        x.pipe(0, 5);
        due(4, "at first in the church", x.of(0, 2), -1);
        due(4, "at first 0", x.of(0, 3), 0);
    }

    private static void noteAndHush() {
        GonePipes x = new GonePipes();
        due(5, "hymn 3", x.note(3, 0), -2);
        due(5, "hymn -1", x.note(-1, 0), -2);
        due(5, "note 36", x.note(0, 36), -2);
        due(5, "note -1", x.note(0, -1), -2);
        for (int i = 1; i <= 8; i++) {
            due(5, "note", x.note(2, 35), i);
        }
        due(5, "9th", x.note(2, 0), -4);
        due(5, "BAD ahead of FULL", x.note(2, 36), -2);
        due(5, "another hymn", x.note(1, 0), 1);
        refused(x, 5, "note", 5, 0, 1);
        due(6, "hush(3)", x.hush(3), -2);
        due(6, "hush(-1)", x.hush(-1), -2);
        due(6, "hush(2)", x.hush(2), 8);
        due(6, "hush(2)", x.hush(2), 0);
        due(6, "hush(1)", x.hush(1), 1);
        due(6, "hush(0)", x.hush(0), 0);
        due(6, "behind a hush", x.note(2, 4), 1);
        refused(x, 6, "hush", 7, 0, 1);
    }

    private static void typeAndClear() {
        GonePipes x = new GonePipes();
        due(7, "128", x.type(128), -2);
        due(7, "-1", x.type(-1), -2);
        due(7, "0", x.type(0), 1);
        due(7, "127", x.type(127), 2);
        for (int i = 3; i <= 150; i++) {
            due(7, "type", x.type(32), i);
        }
        due(7, "151st", x.type(32), -4);
        due(7, "BAD ahead of FULL", x.type(128), -2);
        due(7, "bytes", x.count(6), 150);
        refused(x, 7, "type", 3, 0, 1);
        due(8, "clear()", x.clear(), 150);
        due(8, "clear()", x.clear(), 0);
        due(8, "bytes", x.count(6), 0);
        due(8, "type", x.type('o'), 1);
    }

    private static void readWell() {
        GonePipes x = new GonePipes();
        due(9, "organ alone", told(x, "organ;"), 1);
        due(9, "blanks", told(x, "   organ  ;   "), 1);
        due(9, "no blanks needed", told(x, "organ;pipe0 1;hymn0 1 2;place1 2 3 4 5;"), 4);
        due(9, "NOTE", x.of(0, 1), 1);
        due(9, "TONE", x.at(0, 0), 1);
        due(9, "how far", x.at(0, 3), 9);
        due(9, "two figures", told(x, "organ;pipe 05 09;pipe 00 35;"), 3);
        due(9, "KIND", x.of(0, 0), 5);
        due(9, "NOTE", x.of(0, 1), 9);
        due(9, "the most", told(x, "organ;place 11 23 24 30 30;pipe 5 35;hymn 2 35;"), 4);
        due(9, "an empty hymn", told(x, "organ;hymn 1;"), 2);
        due(9, "hymn", x.hush(1), 0);
        due(9, "8 notes", told(x, "organ;hymn 1 1 2 3 4 5 6 7 8;"), 2);
        due(9, "hymn", x.hush(1), 8);
        due(9, "5 places, 8 pipes", told(x, "organ;place0 0 0 0 0;place0 0 0 0 0;place0 0 0 0 0;place0 0 0 0 0;"
            + "place0 0 0 0 0;pipe0 0;pipe0 0;pipe0 0;pipe0 0;pipe0 0;pipe0 0;pipe0 0;"), 13);
        due(9, "PIPES", x.count(0), 7);
        due(9, "PLACES", x.count(1), 5);
        due(9, "8 pipes", told(x, "organ;pipe0 0;pipe0 0;pipe0 0;pipe0 0;pipe0 0;pipe0 0;pipe0 0;pipe0 0;"), 9);
        due(9, "THE TEXT stays", x.read(), 9);
        refused(x, 9, "read", 0, 0, 0);
    }

    private static void readHymnAgain() {
        GonePipes x = new GonePipes();
        due(9, "a hymn told again", told(x, "organ;hymn 1 1 2;hymn 2 5;hymn 1 3;"), 4);
        long again = x.digest();
        due(5, "behind what is told last", x.note(1, 7), 2);
        due(5, "another hymn keeps its own", x.note(2, 7), 2);
        due(9, "told once, as long", told(x, "organ;hymn 1 3;       hymn 2 5;    "), 3);
        due(9, "as told once", x.digest(), again);
        due(9, "told again without notes", told(x, "organ;hymn0 1;hymn0;"), 3);
        due(5, "the first", x.note(0, 0), 1);
        due(9, "8 notes twice", told(x, "organ;hymn 0 1 2 3 4 5 6 7 8;hymn 0 8 7 6 5 4 3 2 1;"), 3);
        due(5, "it is full", x.note(0, 0), -4);
        due(6, "hush", x.hush(0), 8);
        due(9, "8 notes, then 1", told(x, "organ;hymn 0 1 2 3 4 5 6 7 8;hymn 0 9;"), 3);
        due(6, "hush", x.hush(0), 1);
        due(9, "three times", told(x, "organ;hymn 2 1;hymn 2 1 2 3;hymn 2 4 5;"), 4);
        due(6, "hush", x.hush(2), 2);
        x.note(2, 30);
        due(9, "what note told does not stand either", told(x, "organ;hymn 2 6;"), 2);
        due(6, "hush", x.hush(2), 1);
    }

    private static void fault(String text, int at) {
        GonePipes x = organOf("organ;place 1 2 3 4 5;pipe 1 2;hymn 0 7;");
        x.pass(1);
        x.reading(0, 0, 0, 0);
        x.clear();
        long before = x.digest();
        int answer = told(x, text);
        due(9, "'" + text + "'", answer, -10 - at);
        x.clear();
        due(9, "all stays by '" + text + "'", x.digest(), before);
        refused(x, 9, "a fault is none of these", 0, 0, 0);
    }

    private static void readFaults() {
        fault("", 0);
        fault("   ", 3);
        fault("organ", 5);
        fault("organ ", 6);
        fault("organ;pipe", 10);
        fault("organ;pipe ", 11);
        fault("organ;pipe 0", 12);
        fault("organ;pipe 0 0", 14);
        fault("organ;hymn 0", 12);
        fault("organ;hymn 0 1", 14);
        fault("organ;place 0 0 0 0 0", 21);
        fault("organ;plac", 6);
        fault("organ;plac 0 0 0 0 0;", 6);
        fault("organ;placepipe 0 0;", 6);
        fault(" organ; pipes 0 0;", 8);
        fault("orga;", 0);
        fault("organs;", 0);
        fault("organz;", 0);
        fault("organa;", 0);
        fault("Organ;", 0);
        fault("organ;Pipe 0 0;", 6);
        fault("organ;pipE 0 0;", 6);
        fault("organ;organ;", 6);
        fault("organ organ;", 6);
        fault("pipe 0 0;organ;", 0);
        fault("5 organ;", 0);
        fault(";organ;", 0);
        fault("organ;;", 6);
        fault("organ 1;", 6);
        fault("organ;5;", 6);
        fault("organ;pipe 0;", 12);
        fault("organ;pipe 0 0 0;", 15);
        fault("organ;pipe 0 0 pipe 0 0;", 15);
        fault("organ;pipe pipe;", 11);
        fault("organ;pipe 6 0;", 11);
        fault("organ;pipe 0 36;", 13);
        fault("organ;pipe 0 007;", 13);
        fault("organ;pipe 000 7;", 11);
        fault("organ;hymn 0 1 2 1234;", 17);
        fault("organ;hymn;", 10);
        fault("organ;hymn 3;", 11);
        fault("organ;hymn 0 36;", 13);
        fault("organ;hymn 0 hymn 1;", 13);
        fault("organ;hymn 0 1 2 3 4 5 6 7 8 9;", 29);
        fault("organ;hymn 0 1 2;hymn 0 1 2 3 4 5 6 7 8 9;", 40);
        fault("organ;hymn 0 1 2;hymn 0 36;", 24);
        fault("organ;place 12 0 0 0 0;", 12);
        fault("organ;place 0 24 0 0 0;", 14);
        fault("organ;place 0 0 25 0 0;", 16);
        fault("organ;place 0 0 0 31 0;", 18);
        fault("organ;place 0 0 0 0 31;", 20);
        fault("organ;place 0 0 0 0;", 19);
        fault("organ;place 0 0 0 0 0 0;", 22);
        fault("organ;pipe -1 0;", 11);
        fault("organ;pipe 0 1,", 14);
        fault("organ\t;", 5);
        fault("organ;\u0000", 6);
        fault("organ;\u007f", 6);
        fault("organ;/", 6);
        fault("organ;:", 6);
        fault("organ;`", 6);
        fault("organ;{", 6);
        fault("organ;place0 0 0 0 0;place0 0 0 0 0;place0 0 0 0 0;place0 0 0 0 0;place0 0 0 0 0;place", 81);
        fault("organ;pipe0 0;pipe0 0;pipe0 0;pipe0 0;pipe0 0;pipe0 0;pipe0 0;pipe0 0;  pipe 0 0;", 72);
    }

    private static void readTakesThePlace() {
        GonePipes x = organOf("organ;place 0 0 24 1 1;pipe 0 0;pipe 0 1;hymn 0 0;hymn 2 1;");
        x.pass(3);
        x.image(0);
        x.reading(0, 0, 0, 1);
        x.feast(0, 0, 3);
        x.undo();
        x.of(9, 9);
        due(9, "read", told(x, "organ;pipe 3 7;hymn 1 4;"), 3);
        due(9, "PIPES", x.count(0), 1);
        due(9, "PLACES", x.count(1), 0);
        due(9, "HOUR", x.count(2), 0);
        due(9, "AWAY", x.count(3), 0);
        due(9, "READINGS", x.count(4), 0);
        due(9, "undo", x.count(5), 0);
        due(9, "NOTE", x.of(0, 1), 7);
        due(9, "hymn 0", x.hush(0), 0);
        due(9, "hymn 1", x.hush(1), 1);
        due(9, "hymn 2", x.hush(2), 0);
        due(9, "THE FRACTION stays", x.part(0), 3);
        due(9, "THE FRACTION stays", x.part(1), 10);
        refused(x, 9, "stays", 1, 0, 0);
        due(9, "IMAGES stay", x.from(0), 1);
        due(9, "PIPES", x.count(0), 2);
        due(9, "HOUR", x.count(2), 3);
    }

    private static void wishedHours() {
        int[][] places = {{22, 4}, {0, 24}, {5, 0}, {23, 1}, {6, 12}};
        GonePipes x = new GonePipes();
        for (int[] p : places) {
            x.place(0, p[0], p[1], 0, 0);
        }
        for (int hour = 0; hour < 49; hour++) {
            for (int i = 0; i < 5; i++) {
                boolean isWished = false;
                for (int k = 0; k < places[i][1]; k++) {
                    isWished |= (places[i][0] + k) % 24 == hour % 24;
                }
                due(14, "WISHED at " + hour + " of " + i, x.at(i, 1), isWished ? 1 : 0);
            }
            x.pass(1);
        }
    }

    /** Where pipe 0 is hour by hour; '-' is the church. */
    private static void path(int promise, String text, int hourAhead, String want) {
        GonePipes x = organOf(text);
        for (int i = 0; i < hourAhead; i++) {
            x.pass(1);
        }
        StringBuilder got = new StringBuilder();
        for (int i = 0; i < want.length(); i++) {
            x.pass(1);
            int where = x.of(0, 2);
            got.append(where < 0 ? "-" : "" + where);
        }
        if (!got.toString().equals(want)) {
            wrong++;
            System.out.println("promise " + promise + ": " + text + ": " + got + ", due is " + want);
        }
    }

    private static void plainGoes() {
        path(10, "organ;place 0 2 3 0 0;pipe 0 0;", 0, "-000----");
        path(10, "organ;place 0 2 3 0 0;pipe 0 1;", 0, "--------");
        path(10, "organ;place 0 2 3 0 0;pipe 0 24;", 0, "-000----");
        path(10, "organ;place 0 0 24 0 0;pipe 0 12;", 0, "00000000");
        path(10, "organ;place 0 0 0 0 0;pipe 0 12;", 0, "--------");
        path(10, "organ;place 0 1 1 0 0;place 0 2 1 0 0;place 0 3 2 0 0;pipe 0 12;", 0, "0-22----");
        path(10, "organ;place 1 1 9 0 0;place 0 2 1 0 0;place 0 2 3 0 0;pipe 0 0;", 0, "-1-2-");
        GonePipes x = organOf("organ;place 0 1 9 0 0;place 0 2 1 0 0;pipe 0 0;pipe 0 0;pipe 0 12;");
        due(10, "one a place", x.pass(1), 2);
        due(10, "the first", x.of(0, 2), 0);
        due(10, "the second place", x.pass(1), 1);
        due(10, "by numbers", x.of(1, 2), 1);
        due(10, "AWAY for", x.of(0, 3), 1);
        due(10, "AWAY for", x.of(1, 3), 0);
        due(10, "back", x.pass(1), 2);
        due(10, "for 0", x.of(1, 3), 0);
        // 0 and 1 go; at hour 3 pipe 1 comes back, and pipe 0 did not see the place free
        GonePipes y = organOf("organ;place 0 1 1 0 0;place 0 1 4 0 0;pipe 0 0;pipe 0 0;pipe 0 0;");
        due(10, "two go", y.pass(1), 1);
        due(10, "0 comes back, 2 finds no place", y.pass(1), 2);
        due(10, "at 1", y.of(1, 2), 1);
        due(10, "0 finds none", y.of(0, 2), -1);
        y.fetch(1);
        due(10, "0 goes first", y.pass(1), 2);
        due(10, "0 is there", y.of(0, 2), 1);
        // a place that was left in this hour is free for those behind
        GonePipes z = organOf("organ;place 0 0 24 0 0;pipe 4 0;pipe 0 0;");
        z.pass(2);
        due(10, "homesick is there", z.at(0, 2), 1);
        z.pass(1);
        due(10, "the next is there", z.at(0, 2), 2);
        // whatever its TONE is
        GonePipes w = organOf("organ;place 3 0 24 0 0;pipe 0 3;");
        w.pass(1);
        due(27, "it stays, whatever the TONE", w.wish(0, 5), 0);
    }

    private static void reed() {
        path(10, "organ;place 0 1 1 0 0;pipe 1 0;", 0, "000-----");
        path(10, "organ;place 0 1 3 0 0;pipe 1 0;", 0, "000-----");
        path(10, "organ;place 0 1 4 0 0;pipe 1 0;", 0, "0000----");
        path(10, "organ;place 0 1 2 0 0;pipe 1 0;", 0, "000-");
    }

    private static void flute() {
        path(10, "organ;place 0 0 24 0 0;pipe 2 0;", 0, "------");
        path(10, "organ;place 0 0 24 0 0;place 1 3 2 0 0;pipe 2 0;pipe 0 1;", 0, "---000");
        path(10, "organ;place 1 3 2 0 0;place 0 3 1 0 0;pipe 2 0;pipe 0 1;", 0, "------");
        path(10, "organ;place 1 3 2 0 0;place 0 4 2 0 0;pipe 2 0;pipe 0 1;", 0, "---11-");
        GonePipes x = organOf("organ;place 1 3 2 0 0;place 0 3 1 0 0;pipe 0 1;pipe 2 0;");
        x.pass(3);
        due(10, "in the same hour, behind it", x.of(1, 2), 1);
        x.pass(1);
        due(10, "as PLAIN", x.of(1, 2), -1);
    }

    private static void bourdon() {
        path(10, "organ;place 0 6 20 0 0;pipe 3 0;", 5, "------------0000");
        path(10, "organ;place 0 0 24 0 0;pipe 3 0;", 0, "00000000");
        path(10, "organ;place 0 5 1 0 0;pipe 3 0;", 3, "-000----");
        path(10, "organ;place 0 6 9 0 0;pipe 3 0;", 3, "--------");
        path(10, "organ;place 0 17 2 0 0;pipe 3 0;", 15, "--000---");
    }

    private static void homesick() {
        path(10, "organ;place 0 0 24 0 0;pipe 4 0;", 0, "00-00-00-");
        path(10, "organ;place 0 1 1 0 0;pipe 4 0;", 0, "0-------");
    }

    private static void nightFlute() {
        path(10, "organ;place 0 0 24 0 0;pipe 5 0;", 0, "--------");
        path(10, "organ;place 0 3 1 0 0;place 1 1 9 0 0;pipe 5 0;pipe 0 1;", 0, "--00000000000000000000000000000000");
        path(10, "organ;place 0 6 9 0 0;place 1 1 9 0 0;pipe 5 0;pipe 0 1;", 0, "--------------");
        path(10, "organ;place 0 6 19 0 0;place 1 0 24 0 0;pipe 5 0;pipe 0 1;", 15, "--00");
    }

    private static void passAnswers() {
        GonePipes x = organOf("organ;place 0 5 9 0 0;pipe 0 0;pipe 1 1;");
        due(10, "0", x.pass(0), -2);
        due(10, "49", x.pass(49), -2);
        due(10, "-1", x.pass(-1), -2);
        due(10, "HOUR", x.count(2), 0);
        due(10, "4", x.pass(4), 2);
        due(10, "1", x.pass(1), 1);
        due(10, "48", x.pass(48), 1);
        due(10, "HOUR", x.count(2), 53);
        due(10, "AWAY for", x.of(0, 3), 0);
        refused(x, 10, "pass", 3, 0, 0);
    }

    private static void fetchAndUndo() {
        GonePipes x = organOf("organ;place 3 0 24 0 0;place 0 0 24 0 0;pipe 0 0;pipe 0 5;");
        due(11, "in the church", x.fetch(0), -3);
        due(11, "no pipe", x.fetch(2), -2);
        due(11, "no pipe", x.fetch(-1), -2);
        x.pass(4);
        due(11, "AWAY for", x.of(0, 3), 3);
        due(11, "fetch(0)", x.fetch(0), 1);
        due(11, "in the church", x.of(0, 2), -1);
        due(11, "for 0", x.of(0, 3), 0);
        due(11, "the hour stays", x.count(2), 4);
        due(11, "may be undone", x.count(5), 5);
        due(12, "undo", x.undo(), 4);
        due(12, "at its place", x.of(0, 2), 1);
        due(12, "for so long", x.of(0, 3), 3);
        due(12, "undo", x.undo(), 3);
        due(12, "for so long", x.of(0, 3), 2);
        due(12, "undo", x.undo(), 2);
        due(12, "undo", x.undo(), 1);
        due(12, "undo", x.undo(), 0);
        due(12, "at first", x.of(0, 2), -1);
        due(12, "no more", x.undo(), -3);
        refused(x, 12, "undo", 2, 2, 0);
    }

    private static void undoIsCutOff() {
        GonePipes x = organOf("organ;place 0 0 24 0 0;pipe 0 0;");
        x.pass(20);
        due(12, "8 at most", x.count(5), 8);
        for (int hour = 19; hour >= 12; hour--) {
            due(12, "undo", x.undo(), hour);
            due(12, "for so long", x.of(0, 3), hour - 1);
        }
        due(12, "no more", x.undo(), -3);
        x.pass(3);
        due(12, "a pipe", x.pipe(0, 0), 1);
        due(12, "none may be", x.count(5), 0);
        due(12, "none may be", x.undo(), -3);
        x.pass(3);
        x.place(1, 1, 1, 1, 1);
        due(12, "behind a place none may be", x.undo(), -3);
        x.pass(3);
        x.pipe(6, 0);
        x.place(12, 0, 0, 0, 0);
        x.note(0, 1);
        x.hush(0);
        x.reading(0, 0, 0, 0);
        x.forget();
        due(12, "others do not cut it off", x.count(5), 3);
        x.note(0, 7);
        x.reading(0, 0, 0, 0);
        x.undo();
        due(12, "the hymn stays", x.hush(0), 1);
        due(12, "the reading stays", x.count(4), 1);
    }

    private static void ofAndAt() {
        GonePipes x = organOf("organ;place 7 0 24 30 1;place 9 5 1 2 3;pipe 0 31;pipe 3 9;pipe 2 20;pipe 5 1;pipe 1 0;"
            + "pipe 4 0;");
        int[] atFirst = {1, 1, 0, 0, 1, 1};
        for (int i = 0; i < 6; i++) {
            due(13, "would go " + i, x.of(i, 4), atFirst[i]);
        }
        x.pass(1);
        int[] then = {1, 1, 1, 1, 1, 1};
        for (int i = 0; i < 6; i++) {
            due(13, "would go " + i, x.of(i, 4), then[i]);
        }
        x.pass(5);
        int[] byDay = {1, 0, 1, 0, 1, 1};
        for (int i = 0; i < 6; i++) {
            due(13, "would go " + i, x.of(i, 4), byDay[i]);
        }
        due(13, "KIND", x.of(1, 0), 3);
        due(13, "NOTE", x.of(0, 1), 31);
        due(13, "where", x.of(0, 2), 0);
        due(13, "for how long", x.of(0, 3), 5);
        due(13, "where", x.of(1, 2), 1);
        due(13, "pipe 6", x.of(6, 0), -10);
        due(13, "pipe -1", x.of(-1, 0), -10);
        due(13, "what 5", x.of(0, 5), -10);
        due(13, "what -1", x.of(0, -1), -10);
        due(14, "TONE", x.at(0, 0), 7);
        due(14, "PIPES", x.at(0, 2), 1);
        due(14, "PIPES", x.at(1, 2), 2);
        due(14, "WISHED", x.at(0, 1), 1);
        due(14, "WISHED", x.at(1, 1), 0);
        due(14, "how far", x.at(0, 3), 31);
        due(14, "how far", x.at(1, 3), 5);
        due(14, "place 2", x.at(2, 0), -2);
        due(14, "place -1", x.at(-1, 0), -2);
        due(14, "what 4", x.at(0, 4), -2);
        due(14, "what -1", x.at(0, -1), -2);
        refused(x, 14, "of and at", 8, 0, 0);
        GonePipes alone = organOf("organ;place 0 0 24 0 0;place 1 0 24 0 0;pipe 2 0;pipe 0 1;");
        alone.pass(2);
        due(13, "a flute that is away, another, too", alone.of(0, 4), 1);
        alone.fetch(1);
        due(13, "a flute that is the only one away", alone.of(0, 4), 0);
    }

    private static void thenAndLeft() {
        GonePipes x = organOf("organ;place 0 2 3 0 0;place 1 22 1 0 0;pipe 0 0;pipe 0 13;");
        int[] where = {-1, -1, 0, 0, 0, -1};
        for (int m = 0; m < 6; m++) {
            due(15, "then " + m, x.then(m, 0), where[m]);
            due(16, "left " + m, x.left(m), where[m] < 0 ? 2 : 1);
        }
        due(15, "then 22", x.then(22, 1), 1);
        due(15, "then 70", x.then(70, 1), 1);
        due(15, "then 72", x.then(72, 1), -1);
        due(16, "left 70", x.left(70), 1);
        due(16, "left 72", x.left(72), 2);
        x.pass(2);
        due(15, "from now", x.then(2, 0), 0);
        due(15, "from now", x.then(3, 0), -1);
        due(15, "now", x.then(0, 0), 0);
        due(15, "73", x.then(73, 0), -10);
        due(15, "-1", x.then(-1, 0), -10);
        due(15, "pipe 2", x.then(0, 2), -10);
        due(15, "pipe -1", x.then(0, -1), -10);
        due(16, "73", x.left(73), -2);
        due(16, "-1", x.left(-1), -2);
        refused(x, 16, "then and left", 6, 0, 0);
        due(16, "nothing is changed", x.count(2), 2);
    }

    private static void hymnsPlayed() {
        GonePipes x = organOf("organ;place 0 1 9 0 0;pipe 0 0;pipe 0 12;pipe 0 14;pipe 0 35;hymn 0 12 12 14 1;"
            + "hymn 1 10 11 32;hymn 2 29 35 30 0;");
        due(17, "twice the same", x.plays(0, 0), 3);
        due(17, "not by tones", x.plays(0, -1), 1);
        due(17, "2 higher", x.plays(0, 2), 2);
        due(17, "lower than 0", x.plays(2, -6), 0);
        due(17, "higher than 35", x.plays(2, 6), 1);
        due(17, "3 higher", x.plays(1, 3), 2);
        due(18, "best 0", x.best(0), 0);
        due(18, "best 1", x.best(1), 3);
        due(18, "least change", x.best(2), 0);
        due(19, "tones", x.missing(0, 0), 2);
        due(19, "tones", x.missing(0, 6), 2 | 1 | 4);
        due(19, "as they are in the hymn", x.missing(1, 3), 1 << 10);
        due(19, "all", x.missing(1, 0), 1 << 10 | 1 << 11 | 1 << 8);
        due(19, "below", x.missing(2, -6), 1 << 5 | 1 << 11 | 1 << 6 | 1);
        due(19, "above", x.missing(2, 6), 1 << 11 | 1 << 6 | 1);
        x.pass(1);
        due(17, "0 is gone", x.plays(2, 0), 1);
        for (int[] wrongOnes : new int[][] {{3, 0}, {-1, 0}, {0, 7}, {0, -7}}) {
            due(17, "BAD", x.plays(wrongOnes[0], wrongOnes[1]), -2);
            due(19, "BAD", x.missing(wrongOnes[0], wrongOnes[1]), -2);
        }
        due(18, "BAD", x.best(3), -10);
        due(18, "BAD", x.best(-1), -10);
        refused(x, 18, "hymns", 10, 0, 0);
        GonePipes y = organOf("organ;pipe 0 8;pipe 0 12;hymn 0 10;hymn 1 6;hymn 2 18;");
        due(18, "of like ones the lower", y.best(0), -2);
        due(18, "the least change", y.best(1), 2);
        due(18, "-6", y.best(2), -6);
        due(17, "-6", y.plays(2, -6), 1);
        due(17, "6", y.plays(1, 6), 1);
        GonePipes z = organOf("organ;pipe 0 9;pipe 0 10;hymn 0 4 5;hymn 1 15 16;hymn 2 3;");
        due(18, "more is better than least", z.best(0), 5);
        due(18, "more is better than least", z.best(1), -6);
        due(18, "6", z.best(2), 6);
        due(18, "an empty hymn", new GonePipes().best(0), 0);
        due(17, "an empty hymn", new GonePipes().plays(0, 0), 0);
        due(19, "an empty hymn", new GonePipes().missing(0, 0), 0);
    }

    private static void fetchAll() {
        GonePipes x = organOf("organ;place 0 1 9 0 0;place 0 1 9 0 0;place 2 1 9 0 0;pipe 0 12;pipe 0 12;pipe 0 14;"
            + "pipe 0 20;hymn 0 12 14 12;hymn 1 14 22;hymn 2 1;");
        due(20, "nothing is away", x.fetchAll(0), 0);
        due(20, "by a shift", x.fetchAll(1), 0);
        x.pass(1);
        due(20, "the least of like ones", x.fetchAll(0), 1 | 4);
        due(20, "by a shift", x.fetchAll(1), 1);
        due(20, "none", x.fetchAll(2), -1);
        due(20, "BAD", x.fetchAll(3), -2);
        due(20, "BAD", x.fetchAll(-1), -2);
        x.hush(2);
        due(20, "an empty hymn", x.fetchAll(2), 0);
        refused(x, 20, "fetchAll", 2, 0, 0);
        GonePipes y = organOf("organ;place 0 1 9 0 0;place 2 1 9 0 0;place 5 1 9 0 0;pipe 0 0;pipe 0 2;pipe 0 5;"
            + "pipe 0 7;hymn 0 3 5;hymn 1 2 4;");
        y.pass(1);
        due(20, "fewer is better than less", y.fetchAll(0), 4);
        due(20, "fewer is better than less", y.fetchAll(1), 4);
        GonePipes z = organOf("organ;place 5 1 9 0 0;place 3 1 9 0 0;pipe 0 5;pipe 0 3;hymn 0 4;hymn 1 2;");
        z.pass(1);
        due(20, "of like ones the least, by a later shift", z.fetchAll(0), 1);
        due(20, "of like ones the least, by a later shift", z.fetchAll(1), 1);
        GonePipes w = organOf("organ;place 5 1 9 0 0;place 9 1 9 0 0;place 3 1 9 0 0;pipe 0 5;pipe 0 9;pipe 0 3;pipe 0 7;"
            + "hymn 0 4 8;hymn 1 0 4;");
        w.pass(1);
        due(20, "fewer is better than less, by an earlier shift", w.fetchAll(0), 4);
        due(20, "fewer is better than less, by an earlier shift", w.fetchAll(1), 4);
        GonePipes v = organOf("organ;place 6 1 9 0 0;place 0 1 9 0 0;pipe 0 18;pipe 0 12;hymn 0 12;hymn 1 18;hymn 2 24;");
        v.pipe(0, 30);
        v.pass(1);
        due(20, "6 higher", v.fetchAll(0), 1);
        due(20, "6 lower", v.fetchAll(1), 1);
        due(20, "6 higher, in the church", v.fetchAll(2), 0);
    }

    private static void falls() {
        GonePipes x = organOf("organ;place 0 5 9 0 0;place 2 7 1 0 0;pipe 0 0;pipe 0 2;pipe 0 3;hymn 0 1;hymn 1 0 2;"
            + "hymn 2 30;");
        due(21, "by a shift it does not", x.falls(0), -1);
        due(21, "at hour 5", x.falls(1), 5);
        due(21, "now", x.falls(2), 0);
        x.pass(2);
        due(21, "from now", x.falls(1), 3);
        x.hush(2);
        due(21, "an empty hymn", x.falls(2), -1);
        due(21, "BAD", x.falls(3), -2);
        due(21, "BAD", x.falls(-1), -2);
        refused(x, 21, "falls", 2, 0, 0);
        GonePipes y = organOf("organ;place 0 23 1 0 0;place 0 23 2 0 0;pipe 0 0;pipe 2 12;hymn 0 0;hymn 1 12;");
        due(21, "at 23", y.falls(0), 23);
        GonePipes z = organOf("organ;place 0 0 1 0 0;pipe 0 0;hymn 0 0;");
        due(21, "at 24", z.falls(0), 24);
        GonePipes w = organOf("organ;place 0 0 24 0 0;place 1 0 1 0 0;pipe 0 1;pipe 2 0;hymn 0 20;");
        w.hush(0);
        w.note(0, 0);
        due(21, "0 or 1 is played", w.falls(0), 24);
        GonePipes v = organOf("organ;place 0 1 1 0 0;place 0 2 1 0 0;pipe 0 0;pipe 0 12;hymn 0 0;");
        due(21, "at 1", v.falls(0), 1);
        v.pass(2);
        v.fetch(0);
        due(21, "24 on", v.falls(0), 23);
        GonePipes u = organOf("organ;place 0 0 24 0 0;pipe 3 0;hymn 0 0;");
        u.pass(6);
        u.fetch(0);
        due(21, "at dusk", u.falls(0), 12);
        // at 24 the flute still plays it by a shift, at 25 it is gone for good, at 48 the other one goes
        GonePipes last = organOf("organ;place 1 14 24 0 0;place 0 0 1 0 0;pipe 2 1;pipe 0 0;hymn 0 0;");
        due(21, "at 48", last.falls(0), 48);
        // the night flutes go for good at 23 and 46, the plain one at 57
        GonePipes late = organOf("organ;place 0 9 3 0 0;place 1 3 24 0 0;place 0 22 2 0 0;pipe 5 1;pipe 5 0;pipe 0 0;"
            + "hymn 0 0;");
        late.pass(8);
        due(21, "behind 49", late.falls(0), -1);
        late.pass(1);
        due(21, "behind 48", late.falls(0), 48);
    }

    private static void walk() {
        GonePipes x = organOf("organ;place 0 0 24 10 0;place 1 0 24 0 10;place 2 0 24 10 10;place 3 0 24 5 0;"
            + "place 4 0 24 0 0;pipe 0 0;pipe 0 1;pipe 0 2;pipe 0 3;pipe 0 4;pipe 0 9;");
        due(22, "all in the church", x.walk(63, 0), 0);
        due(22, "all in the church", x.walk(63, 1), -1);
        x.pass(1);
        due(22, "one", x.walk(1, 0), 20);
        due(22, "one", x.walk(1, 1), 0);
        due(22, "one in the church", x.walk(32, 0), 0);
        due(22, "one in the church", x.walk(32, 1), -1);
        due(22, "none", x.walk(0, 0), 0);
        due(22, "none", x.walk(0, 1), -1);
        due(22, "round", x.walk(7, 0), 40);
        due(22, "round", x.walk(7, 1), 0);
        due(22, "all", x.walk(63, 0), 40);
        due(22, "all", x.walk(63, 1), 1);
        due(22, "two on one line", x.walk(9, 0), 20);
        due(22, "two on one line", x.walk(9, 1), 0);
        due(22, "the church's own", x.walk(16, 0), 0);
        due(22, "the church's own", x.walk(16, 1), 4);
        due(22, "far ones", x.walk(6, 1), 1);
        due(22, "64", x.walk(64, 0), -10);
        due(22, "-1", x.walk(-1, 0), -10);
        due(22, "what 2", x.walk(1, 2), -10);
        due(22, "what -1", x.walk(1, -1), -10);
        refused(x, 22, "walk", 4, 0, 0);
        GonePipes y = organOf("organ;place 0 0 24 30 30;place 1 0 24 1 0;place 2 0 24 0 2;pipe 0 2;pipe 0 1;pipe 0 0;");
        y.pass(1);
        due(22, "round", y.walk(7, 0), 120);
        due(22, "not the far one first", y.walk(7, 1), 1);
        due(22, "by pipes, not places", y.walk(1, 0), 4);
        due(22, "by pipes, not places", y.walk(1, 1), 2);
    }

    private static void readingsMay() {
        GonePipes x = organOf("organ;place 0 1 1 0 0;place 1 0 24 0 0;pipe 0 0;pipe 0 1;");
        for (int[] r : new int[][] {{2, 0, 0, 0}, {-1, 0, 0, 0}, {0, 73, 0, 0}, {0, -1, 0, 0}, {0, 0, 2, 0},
            {0, 0, -1, 0}, {0, 0, 0, 2}, {0, 0, 0, -1}}) {
            due(23, "BAD", x.reading(r[0], r[1], r[2], r[3]), -2);
        }
        due(25, "no readings", x.may(0), 63);
        due(23, "reading", x.reading(0, 1, 0, 1), 1);
        // FLUTE and NIGHT FLUTE wait for another that is away, and pipe 1 goes behind pipe 0
        due(25, "at once there", x.may(0), 1 | 2 | 8 | 16);
        due(23, "reading", x.reading(0, 2, 0, 0), 2);
        due(25, "back at once", x.may(0), 1 | 16);
        due(23, "reading", x.reading(0, 72, 1, 0), 3);
        due(25, "so anyway", x.may(0), 1 | 16);
        due(25, "of the other", x.may(1), 63);
        due(23, "reading", x.reading(1, 5, 1, 1), 4);
        // HOMESICK: 1, 2 there, 3 back, 4, 5 there
        due(25, "of the other", x.may(1), 63);
        due(23, "reading", x.reading(1, 6, 1, 1), 5);
        due(25, "of the other", x.may(1), 63 - 16);
        due(23, "reading", x.reading(1, 72, 1, 1), 6);
        due(23, "7th", x.reading(0, 0, 0, 0), -4);
        due(23, "BAD ahead of FULL", x.reading(0, 0, 0, 2), -2);
        due(23, "READINGS", x.count(4), 6);
        due(25, "BAD", x.may(2), -2);
        due(25, "BAD", x.may(-1), -2);
        due(24, "forget", x.forget(), 6);
        due(24, "forget", x.forget(), 0);
        due(25, "no readings", x.may(0), 63);
        refused(x, 23, "readings", 11, 0, 1);
        due(23, "a reading of another pipe counts", x.reading(1, 0, 1, 1), 1);
        due(25, "so not by any", x.may(0), 0);
        x.forget();
        x.reading(0, 0, 0, 1);
        due(25, "not now", x.may(0), 0);
        x.pass(1);
        due(25, "m hours from now", x.may(0), 63);
        due(25, "kinds stay", x.of(0, 0), 0);
    }

    private static void listen() {
        GonePipes x = organOf("organ;place 5 0 24 0 0;place 0 0 24 0 0;place 0 0 24 0 0;pipe 0 0;pipe 0 5;");
        // in 1 hour pipe 0 is at place 1 by PLAIN, REED, BOURDON, HOMESICK: 4 and 2
        due(26, "1 hour", x.listen(0, 1), 1);
        due(26, "now: all alike, the first", x.listen(0, 0), 0);
        x.reading(0, 1, 1, 1);
        due(26, "all are there: the first", x.listen(0, 1), 0);
        // HOMESICK is back in 3 hours
        due(26, "3 hours", x.listen(0, 3), 1);
        x.reading(0, 1, 1, 0);
        due(26, "no KIND may be", x.listen(0, 1), -1);
        due(26, "pipe 2", x.listen(2, 0), -2);
        due(26, "pipe -1", x.listen(-1, 0), -2);
        due(26, "73", x.listen(0, 73), -2);
        due(26, "-1", x.listen(0, -1), -2);
        refused(x, 26, "listen", 4, 0, 0);
        GonePipes y = organOf("organ;pipe 0 0;");
        due(26, "no PLACES", y.listen(0, 3), -1);
    }

    private static void wish() {
        GonePipes x = organOf("organ;place 4 0 24 0 0;pipe 0 0;pipe 0 1;pipe 0 2;pipe 0 4;");
        due(27, "now", x.wish(0, 0), 0);
        due(27, "none wants 3", x.wish(0, 1), 3);
        due(27, "the TONE stays", x.at(0, 0), 4);
        x.pass(1);
        due(27, "it does not come back", x.wish(0, 72), 0);
        due(27, "place 1", x.wish(1, 0), -2);
        due(27, "place -1", x.wish(-1, 0), -2);
        due(27, "73", x.wish(0, 73), -2);
        due(27, "-1", x.wish(0, -1), -2);
        refused(x, 27, "wish", 4, 0, 0);
        GonePipes y = organOf("organ;place 0 1 9 0 0;place 1 0 24 0 0;pipe 0 1;pipe 4 0;pipe 2 0;");
        due(27, "a homesick one keeps it", y.wish(0, 3), 1);
    }

    private static void fraction(GonePipes x, int hymn, int shift, int c, long above, long below) {
        due(28, "feast", x.feast(hymn, shift, c), 1);
        due(28, "above by " + c + bits(hymn, shift), x.part(0), above);
        due(28, "below by " + c + bits(hymn, shift), x.part(1), below);
    }

    private static void feast() {
        GonePipes x = organOf("organ;place 0 0 24 0 0;place 0 0 24 0 0;place 1 0 24 0 0;pipe 0 12;pipe 0 12;pipe 0 13;"
            + "pipe 0 20;hymn 0 12 12 13;hymn 1 12;hymn 2 20 14;");
        fraction(x, 0, 0, 0, 1, 1);
        x.pass(1);
        fraction(x, 1, 0, 5, 3, 4);
        fraction(x, 1, 0, 3, 51, 100);
        fraction(x, 1, 1, 3, 3, 10);
        fraction(x, 0, 0, 5, 3, 8);
        fraction(x, 0, 0, 7, 637, 1000);
        fraction(x, 0, 0, 0, 0, 1);
        fraction(x, 0, 0, 10, 1, 1);
        fraction(x, 0, 1, 10, 0, 1);
        fraction(x, 2, 0, 10, 0, 1);
        x.hush(2);
        fraction(x, 2, -6, 0, 1, 1);
        due(28, "hymn 3", x.feast(3, 0, 0), -2);
        due(28, "hymn -1", x.feast(-1, 0, 0), -2);
        due(28, "7", x.feast(0, 7, 0), -2);
        due(28, "-7", x.feast(0, -7, 0), -2);
        due(28, "11", x.feast(0, 0, 11), -2);
        due(28, "-1", x.feast(0, 0, -1), -2);
        due(30, "stays", x.part(0), 1);
        due(30, "2", x.part(2), -2);
        due(30, "-1", x.part(-1), -2);
        refused(x, 30, "feast and part", 8, 0, 0);
        GonePipes y = organOf("organ;place 0 0 24 0 0;place 1 0 24 0 0;place 2 0 24 0 0;place 3 0 24 0 0;"
            + "place 4 0 24 0 0;pipe0 0;pipe0 1;pipe0 2;pipe0 3;pipe0 4;");
        for (int n = 0; n < 5; n++) {
            y.note(0, n);
        }
        y.pass(1);
        fraction(y, 0, 0, 9, 59049, 100000);
    }

    private static void hours() {
        due(29, "no PIPES", new GonePipes().hours(1, 1), -1);
        String organ = "organ;place 0 0 24 0 0;place 1 5 9 0 0;place 2 3 4 0 0;pipe 5 0;pipe 0 1;pipe 1 2;pipe 0 0;pipe 4 1;";
        GonePipes x = organOf(organ);
        due(29, "BAD", x.hours(1000000, 0), -2);
        due(29, "BAD", x.hours(-1, 0), -2);
        due(29, "BAD", x.hours(0, 61), -2);
        due(29, "BAD", x.hours(0, -1), -2);
        refused(x, 29, "hours", 4, 0, 0);
        x.pass(4);
        due(29, "0 hours", x.hours(5, 0), x.count(3));
        for (int seed : new int[] {0, 1, 77, 999999}) {
            for (int n : new int[] {1, 2, 7, 60}) {
                due(29, "seed " + seed + " n " + n, x.hours(seed, n), seeded(organOf(organ), seed, n));
            }
        }
        due(29, "nothing is changed", x.count(2), 4);
    }

    /** By calls: how many are away at the end. */
    private static int seeded(GonePipes x, int seed, int n) {
        x.pass(4);
        long state = seed;
        for (int i = 0; i < n; i++) {
            state = (state * 1103515245L + 12345L) & 0x7fffffffL;
            x.fetch((int) ((state >> 16) % 5));
            x.pass(1);
        }
        return x.count(3);
    }

    private static void images() {
        GonePipes x = organOf("organ;place 0 0 24 0 0;pipe 0 0;hymn 0 3;");
        due(32, "none was kept", x.from(0), -3);
        x.pass(3);
        int bytes = x.count(6);
        x.reading(0, 4, 0, 1);
        due(31, "image(1)", x.image(1), 1);
        due(31, "image(2)", x.image(2), -2);
        due(31, "image(-1)", x.image(-1), -2);
        due(32, "from(0)", x.from(0), -3);
        due(32, "from(2)", x.from(2), -2);
        due(32, "from(-1)", x.from(-1), -2);
        x.fetch(0);
        x.pass(20);
        x.pipe(0, 5);
        x.place(5, 5, 5, 5, 5);
        x.note(0, 7);
        x.note(1, 7);
        x.forget();
        x.type(65);
        x.feast(2, 0, 0);
        due(31, "another", x.image(0), 1);
        due(32, "from(1)", x.from(1), 1);
        due(32, "THE TEXT stays", x.count(6), bytes + 1);
        due(32, "THE FRACTION stays", x.part(0), 1);
        refused(x, 32, "images", 4, 2, 0);
        due(32, "HOUR", x.count(2), 3);
        due(32, "READINGS", x.count(4), 1);
        due(32, "may be undone", x.count(5), 3);
        due(32, "hymn", x.hush(0), 1);
        due(32, "hymn", x.hush(1), 0);
        x.note(0, 3);
        due(32, "undo", x.undo(), 2);
        due(32, "undo", x.undo(), 1);
        due(32, "an image is not used up", x.from(1), 1);
        due(32, "from(0)", x.from(0), 1);
        due(32, "HOUR", x.count(2), 23);
        due(32, "PIPES", x.count(0), 2);
        due(32, "none may be undone", x.count(5), 0);
        due(32, "may be", x.count(1), 2);
        x.image(0);
        x.from(1);
        x.pass(1);
        x.image(1);
        x.undo();
        x.from(1);
        due(31, "the newer one", x.count(2), 4);
        due(31, "what may be undone", x.count(5), 4);
    }

    private static void statusAndCount() {
        GonePipes x = organOf("organ;place 0 0 24 0 0;pipe 0 0;pipe 0 0;");
        due(33, "3", x.status(3), -1);
        due(33, "-1", x.status(-1), -1);
        refused(x, 33, "another what", 2, 0, 0);
        due(34, "7", x.count(7), -2);
        due(34, "-1", x.count(-1), -2);
        refused(x, 34, "count", 4, 0, 0);
        x.undo();
        x.fetch(0);
        x.from(0);
        refused(x, 33, "NO", 4, 3, 0);
        x.pass(2);
        x.reading(0, 0, 0, 0);
        int[] want = {2, 1, 2, 1, 1, 2, 41};
        for (int what = 0; what < 7; what++) {
            due(34, "count " + what, x.count(what), want[what]);
        }
        x.listen(0, 0);
        x.walk(0, 1);
        x.fetchAll(0);
        x.falls(0);
        refused(x, 33, "NONE is not refused", 4, 3, 0);
    }

    private static void digest() {
        GonePipes x = new GonePipes();
        long h = 983;
        for (int v : new int[] {0, 0, 0, 0, 0, 0, 0, 0, 0, 0, 0, 1}) {
            h = 31 * h + v;
        }
        due(35, "a new object", x.digest(), h);
        x = organOf("organ;place 3 1 24 5 6;place 7 8 9 10 11;pipe 4 15;pipe 2 35;hymn 0 1 2;hymn 2 35;");
        x.pass(2);
        x.reading(1, 72, 1, 0);
        x.reading(0, 3, 0, 1);
        x.fetch(0);
        x.undo();
        x.note(1, 12);
        x.feast(1, 3, 4);
        x.hush(1);
        x.feast(0, 0, 0);
        h = 983;
        int[] all = {2, 2, 2, 1, 2, 2, 82, 3, 1, 24, 5, 6, 7, 8, 9, 10, 11, 4, 15, 0, 1, 2, 35, -1, 0,
            2, 1, 2, 0, 1, 35, 1, 72, 1, 0, 0, 3, 0, 1, 0, 1};
        for (int v : all) {
            h = 31 * h + v;
        }
        due(35, "digest, bytes " + x.count(6), x.digest(), h);
    }

    private static void nothingIsChanged() {
        GonePipes x = organOf("organ;place 0 1 9 3 0;place 1 0 24 0 7;place 2 18 9 2 2;pipe 0 0;pipe 1 13;pipe 2 26;"
            + "pipe 3 1;pipe 4 0;pipe 5 2;hymn 0 0 13;");
        x.pass(5);
        x.reading(2, 7, 2, 1);
        long before = x.digest();
        x.then(30, 0);
        x.left(72);
        x.plays(0, 1);
        x.best(0);
        x.missing(0, 0);
        x.fetchAll(0);
        x.falls(0);
        x.walk(63, 0);
        x.may(2);
        x.listen(2, 9);
        x.wish(0, 50);
        x.hours(4711, 60);
        x.of(0, 4);
        x.at(0, 2);
        x.image(0);
        x.part(0);
        x.status(0);
        x.count(0);
        due(15, "nothing is changed", x.digest(), before);
        x.fetch(99);
        x.note(0, 99);
        x.from(1);
        x.feast(0, 0, 99);
        due(33, "refused: nothing is changed", x.digest(), before);
    }
}
