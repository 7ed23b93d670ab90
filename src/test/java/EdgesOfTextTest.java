/** The sentences under Terms on how a text tells an organ: each that names a boundary case has a test of its own. */
public final class EdgesOfTextTest {
    private static final String FAULT = "FAULT: the place of the first byte of the first TOKEN that can not stand there";

    public static void main(String[] args) throws Exception {
        Sentence.begin(args);
        items();
        tokens();
        blanks();
        whatCanNotStand();
        tooMany();
        numbers();
        tooEarly();
        takesThePlace();
        Sentence.end("EdgesOfTextTest");
    }

    /** Read, it is as an organ that was put up by calls, with the same text typed. */
    private static void well(String text, int items, String as) {
        GonePipes x = Sentence.typed(text);
        Sentence.due("'" + text + "' read()", x.read(), items);
        GonePipes y = Sentence.organ(as);
        Sentence.type(y, text);
        Sentence.due("'" + text + "' digest()", x.digest(), y.digest());
        Sentence.status(x, 0, 0, 0);
    }

    /** A fault at that byte, and all stays. */
    private static void fault(String text, int at) {
        GonePipes x = Sentence.organ("place 1 0 24 4 5;pipe 1 1;pipe 0 2;hymn 0 7;hymn 2 1;pass 2");
        x.reading(0, 0, 0, 0);
        x.feast(1, 0, 0);
        Sentence.type(x, text);
        Sentence.asks(x, "'" + text + "' read()", x::read, -10 - at);
        Sentence.due("'" + text + "' then undo()", x.undo(), 1);
    }

    private static void items() {
        Sentence.terms(9, "THE ORGAN is told by a TEXT (150 bytes at most)", () -> {
            String blank = " ".repeat(144);
            well("organ;" + blank, 1, "");
            well(blank + "organ;", 1, "");
            well("organ;" + "hymn0;".repeat(24), 25, "");
            well("organ" + " ".repeat(145 - 11) + ";pipe 5 35;", 2, "pipe 5 35");
            fault("organ" + " ".repeat(145), 150);
            fault(" ".repeat(150), 150);
            fault("organ;" + " ".repeat(143) + "a", 149);
            fault("organ;" + "hymn0;".repeat(23) + "hymn 0", 150);
        });
        Sentence.terms(9, "of ITEMS, each ended by ;", () -> {
            well("organ;pipe 1 2;", 2, "pipe 1 2");
            fault("organ", 5);
            fault("organ;pipe 1 2", 14);
            fault("organ pipe 1 2;", 6);
            fault("organ;pipe 1 2 pipe 1 2;", 15);
            fault("organ;;", 6);
            fault("organ;pipe 1 2;;", 15);
            fault(";", 0);
        });
        Sentence.terms(9, "organ (once, first of all)", () -> {
            well("organ;", 1, "");
            fault("organ;organ;", 6);
            fault("organ;pipe 1 2;organ;", 15);
            fault("organ organ;", 6);
        });
        Sentence.terms(9, "place TONE from n EAST NORTH", () -> {
            well("organ;place 11 23 24 30 29;", 2, "place 11 23 24 30 29");
            well("organ;place 0 0 0 0 0;", 2, "place 0 0 0 0 0");
            well("organ;place 1 2 3 4 5;place 5 4 3 2 1;", 3, "place 1 2 3 4 5;place 5 4 3 2 1");
            fault("organ;place 1 2 3 4;", 19);
            fault("organ;place 1 2 3 4 5 6;", 22);
            fault("organ;place;", 11);
        });
        Sentence.terms(9, "pipe KIND NOTE", () -> {
            well("organ;pipe 5 35;pipe 0 0;", 3, "pipe 5 35;pipe 0 0");
            fault("organ;pipe;", 10);
            fault("organ;pipe 1;", 12);
            fault("organ;pipe 1 2 3;", 15);
        });
        Sentence.terms(9, "hymn k and its NOTES (any)", () -> {
            well("organ;hymn 2;", 2, "");
            well("organ;hymn 0 0;hymn 1 35;hymn 2 7 7;", 4, "hymn 0 0;hymn 1 35;hymn 2 7 7");
            well("organ;hymn 1 1 2 3 4 5 6 7 8;", 2, "hymn 1 1 2 3 4 5 6 7 8");
            well("organ;hymn 0 1 2 3;hymn 0 4;", 3, "hymn 0 4");
            well("organ;hymn 0 1;hymn 0;", 3, "");
            fault("organ;hymn;", 10);
        });
    }

    private static void tokens() {
        Sentence.terms(9, "TOKENS: words of letters a .. z", () -> {
            fault("organ;a;", 6);
            fault("organ;z;", 6);
            fault("organa;", 0);
            fault("organz;", 0);
            fault("organ;pipez 1 2;", 6);
            fault("organ;pipe 1 2;az", 15);
            // the bytes on both sides of a and z begin none, so that the word ends there
            fault("organ`;", 5);
            fault("organ{;", 5);
            fault("Organ;", 0);
            fault("organ;pipE 1 2;", 6);
        });
        Sentence.terms(9, "figures (1 or 2 are one number)", () -> {
            well("organ;pipe 0 9;pipe 5 0;", 3, "pipe 0 9;pipe 5 0");
            well("organ;pipe 00 09;pipe 05 00;pipe 1 10;", 4, "pipe 0 9;pipe 5 0;pipe 1 10");
            well("organ;pipe 1 2;pipe 1 29;", 3, "pipe 1 2;pipe 1 29");
            fault("organ;pipe 0 /", 13);
            fault("organ;pipe 0 :", 13);
            fault("organ;pipe 0 1/;", 14);
            fault("organ;pipe 0 1:;", 14);
        });
        Sentence.terms(9, "a byte that begins none, too)", () -> {
            for (int c = 0; c < 128; c++) {
                boolean begins = c == ' ' || c == ';' || c >= '0' && c <= '9' || c >= 'a' && c <= 'z';
                if (!begins) {
                    fault("organ;" + (char) c, 6);
                }
            }
            fault("organ;pipe 1 2;\t", 15);
            fault("organ\n;", 5);
            fault("organ;pipe -1 2;", 11);
            fault("organ;pipe 1,2;", 12);
        });
    }

    private static void blanks() {
        Sentence.terms(9, "blanks (32), any number, ahead of, between and behind TOKENS", () -> {
            well("   organ   ;   pipe   1   2   ;   ", 2, "pipe 1 2");
            well(" organ ; hymn  0  1  ; ", 2, "hymn 0 1");
            fault("   orga;", 3);
            fault("organ;   ;", 9);
            fault("organ;!", 6);
            fault("organ;" + (char) 31, 6);
            fault("organ;" + (char) 33, 6);
        });
        Sentence.terms(9, "(needed only between two words, two numbers)", () -> {
            well("organ;pipe1 2;place1 2 3 4 5;hymn0 1 2;hymn1;", 5, "pipe 1 2;place 1 2 3 4 5;hymn 0 1 2");
            fault("organ;pipe 12;", 11);
            fault("organ;pipe 12 2;", 11);
            fault("organpipe", 0);
            fault("organ;pipepipe", 6);
            fault("or gan;", 0);
            fault("organ;pi pe 1 2;", 6);
            well("organ;pipe 1 2;hymn 0 1 2;", 3, "pipe 1 2;hymn 0 1 2");
            well("organ;pipe 1 2;hymn 0 12;", 3, "pipe 1 2;hymn 0 12");
            fault("organ;pipe 1 2x;", 14);
        });
    }

    private static void whatCanNotStand() {
        Sentence.terms(9, FAULT + " (a word that is none", () -> {
            fault("organ;pipes 1 2;", 6);
            fault("organ;pip 1 2;", 6);
            fault("organ;stop;", 6);
            fault("orga", 0);
            fault("organ;plac", 6);
            fault("organ;pipe 1 2;hym 0;", 15);
            // another sign at each place of each word
            for (String word : new String[] {"place", "pipe", "hymn", "organ"}) {
                for (int i = 0; i < word.length(); i++) {
                    fault("organ;" + word.substring(0, i) + "x" + word.substring(i + 1) + " 1 2 3 4 5;", 6);
                }
            }
            for (int i = 0; i < 5; i++) {
                fault("organ".substring(0, i) + "x" + "organ".substring(i + 1) + ";", 0);
            }
        });
        Sentence.terms(9, "organ again", () -> {
            fault("organ;organ", 6);
            fault("organ; organ", 7);
            fault("organ;hymn 0 organ;", 13);
        });
        Sentence.terms(9, "anything ahead of it", () -> {
            fault("pipe 1 2;organ;", 0);
            fault("hymn 0;organ;", 0);
            fault("place 1 2 3 4 5;", 0);
            fault("1 organ;", 0);
            fault("  ; organ;", 2);
            fault("?organ;", 0);
        });
        Sentence.terms(9, FAULT, () -> {
            fault("organ 1;", 6);
            fault("organ;1;", 6);
            fault("organ;pipe pipe;", 11);
            fault("organ;pipe 1 hymn;", 13);
            fault("organ;hymn hymn;", 11);
            fault("organ;hymn 0 1 pipe 1 2;", 15);
            fault("organ;pipe 6 36 !", 11);
            fault("organ;pipe 0 36 !", 13);
            fault("organ;pipe 1 2;pipe 1 2;pipe 1 99;", 31);
        });
    }

    private static void tooMany() {
        Sentence.terms(9, "a 6th place, a 9th pipe at its word", () -> {
            String places = "place0 0 0 0 0;".repeat(5);
            String as = "place 0 0 0 0 0;".repeat(5);
            well("organ;" + places, 6, as);
            fault("organ;" + places + "place 0 0 0 0 0;", 81);
            fault("organ;" + places + "place", 81);
            fault("organ;" + places + " place 99", 82);
            well("organ;" + places + "pipe 0 0;", 7, as + "pipe 0 0");
        });
        Sentence.terms(9, "a 9th pipe at its word", () -> {
            String pipes = "pipe0 0;".repeat(8);
            String as = "pipe 0 0;".repeat(8);
            well("organ;" + pipes, 9, as);
            fault("organ;" + pipes + "pipe 0 0;", 70);
            fault("organ;" + pipes + "pipe", 70);
            fault("organ;" + pipes + " pipe 99", 71);
            well("organ;" + pipes + "place 0 0 0 0 0;", 10, as + "place 0 0 0 0 0");
            // those that were there ahead of the text do not count
            GonePipes x = Sentence.organ(as + "place 0 0 0 0 0;".repeat(5));
            Sentence.type(x, "organ;pipe 0 0;place 0 0 0 0 0;");
            Sentence.due("read()", x.read(), 3);
            Sentence.due("count(0)", x.count(0), 1);
            Sentence.due("count(1)", x.count(1), 1);
        });
        Sentence.terms(9, "a 9th NOTE, a byte that begins none", () -> {
            well("organ;hymn 0 1 2 3 4 5 6 7 8;", 2, "hymn 0 1 2 3 4 5 6 7 8");
            fault("organ;hymn 0 1 2 3 4 5 6 7 8 9;", 29);
            fault("organ;hymn 0 1 2 3 4 5 6 7 8 9", 29);
            fault("organ;hymn 0 1 2;hymn 0 1 2 3 4 5 6 7 8 9;", 40);
            well("organ;hymn 0 1 2 3 4 5 6 7 8;hymn 0 9;", 3, "hymn 0 9");
            GonePipes x = Sentence.organ("hymn 0 1 2 3 4 5 6 7 8");
            Sentence.type(x, "organ;hymn 0 9;");
            Sentence.due("what note told does not count: read()", x.read(), 2);
            Sentence.due("hush(0)", x.hush(0), 1);
        });
    }

    private static void numbers() {
        Sentence.terms(9, "a run of three figures or more (at its first one)", () -> {
            fault("organ;pipe 000 0;", 11);
            fault("organ;pipe 0 001;", 13);
            fault("organ;pipe 0 0001;", 13);
            fault("organ;hymn 0 1 234;", 15);
            fault("organ;hymn 0 99999999999999999999;", 13);
            fault("organ;hymn 0 00000000000000000001;", 13);
            fault("organ;hymn 0 4294967297;", 13);
            fault("123", 0);
            fault("organ 123;", 6);
            fault("organ;pipe 0 111", 13);
        });
        Sentence.terms(9, "a number not as told", () -> {
            fault("organ;place 12 0 0 0 0;", 12);
            fault("organ;place 0 24 0 0 0;", 14);
            fault("organ;place 0 0 25 0 0;", 16);
            fault("organ;place 0 0 0 31 0;", 18);
            fault("organ;place 0 0 0 0 31;", 20);
            fault("organ;pipe 6 0;", 11);
            fault("organ;pipe 0 36;", 13);
            fault("organ;hymn 3;", 11);
            fault("organ;hymn 0 36;", 13);
            fault("organ;hymn 0 0 0 0 0 0 0 0 36;", 27);
            fault("organ;hymn 0 99", 13);
        });
    }

    private static void tooEarly() {
        Sentence.terms(9, "the TEXT's length, if it ends too early (an empty one, too)", () -> {
            fault("", 0);
            fault(" ", 1);
            fault("     ", 5);
        });
        Sentence.terms(9, "the TEXT's length, if it ends too early", () -> {
            fault("organ ", 6);
            fault("organ;pipe", 10);
            fault("organ;pipe  ", 12);
            fault("organ;pipe 1", 12);
            fault("organ;pipe 1 2   ", 17);
            fault("organ;place", 11);
            fault("organ;place 0 0 0 0", 19);
            fault("organ;place 0 0 0 0 0", 21);
            fault("organ;hymn", 10);
            fault("organ;hymn 0", 12);
            fault("organ;hymn 0 1 2 3 4 5 6 7 8", 28);
            fault("organ;hymn 0 1 2 3 4 5 6 7 8 ", 29);
            well("organ;  ", 1, "");
        });
    }

    private static void takesThePlace() {
        Sentence.terms(9, "An ORGAN that is read takes the place of all but IMAGES, THE TEXT, THE FRACTION, STATUS", () -> {
            GonePipes x = Sentence.organ("place 0 0 24 1 1;pipe 0 0;hymn 0 0;hymn 2 1;pass 3");
            x.image(0);
            x.feast(0, 0, 3);
            x.status(7);
            Sentence.type(x, "organ;pipe 3 7;hymn 1 4;");
            Sentence.due("read()", x.read(), 3);
            Sentence.due("PIPES: count(0)", x.count(0), 1);
            Sentence.due("of(0, 1)", x.of(0, 1), 7);
            Sentence.due("PLACES: count(1)", x.count(1), 0);
            Sentence.due("AWAY: count(3)", x.count(3), 0);
            Sentence.due("THE TEXT: count(6)", x.count(6), 24);
            Sentence.due("THE FRACTION: part(0)", x.part(0), 3);
            Sentence.due("THE FRACTION: part(1)", x.part(1), 10);
            Sentence.status(x, 1, 0, 0);
            Sentence.due("hush(0)", x.hush(0), 0);
            Sentence.due("hush(1)", x.hush(1), 1);
            Sentence.due("hush(2)", x.hush(2), 0);
            Sentence.due("IMAGES: from(0)", x.from(0), 1);
            Sentence.due("count(2)", x.count(2), 3);
            Sentence.due("from(1)", x.from(1), -3);
        });
        Sentence.terms(9, "(HOUR 0, READINGS none; nothing to undo)", () -> {
            GonePipes x = Sentence.organ("place 0 0 24 1 1;pipe 0 0;pass 9");
            x.reading(0, 0, 0, 1);
            Sentence.type(x, "organ;");
            Sentence.due("read()", x.read(), 1);
            Sentence.due("count(2)", x.count(2), 0);
            Sentence.due("count(4)", x.count(4), 0);
            Sentence.due("count(5)", x.count(5), 0);
            Sentence.no(x, "undo()", x::undo);
        });
        Sentence.terms(9, "An ORGAN that is read", () -> {
            GonePipes x = Sentence.typed("organ;place 0 0 24 1 1;pipe 0 0;");
            Sentence.due("read()", x.read(), 3);
            long read = x.digest();
            x.pass(5);
            Sentence.due("again: read()", x.read(), 3);
            Sentence.due("digest()", x.digest(), read);
        });
    }
}
