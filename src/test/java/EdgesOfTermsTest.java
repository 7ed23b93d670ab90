import java.math.BigInteger;

/** The sentences under Terms that name a boundary case: each has a test of its own. */
public final class EdgesOfTermsTest {
    public static void main(String[] args) throws Exception {
        Sentence.begin(args);
        theClock();
        places();
        pipes();
        plain();
        reed();
        flute();
        bourdon();
        homesick();
        nightFlute();
        anHour();
        whereTheyGo();
        hymns();
        ahead();
        bestAndMissing();
        fetchAll();
        falls();
        walk();
        readings();
        listen();
        wish();
        feast();
        hours();
        undo();
        images();
        status();
        refusals();
        Sentence.end("EdgesOfTermsTest");
    }

    // ---- the clock, places

    private static void theClock() {
        Sentence.terms(34, "the HOUR is 0 at first", () -> {
            GonePipes x = new GonePipes();
            Sentence.due("count(2)", x.count(2), 0);
            x.pass(1);
            Sentence.due("count(2)", x.count(2), 1);
        });
        Sentence.terms(14, "THE CLOCK has HOURS 0 .. 23, HOUR h is on it h by 24 left over", () -> {
            GonePipes x = Sentence.organ("place 0 0 1 0 0;place 0 23 1 0 0");
            for (int hour = 0; hour <= 97; hour++) {
                Sentence.due("at hour " + hour + " at(0, 1)", x.at(0, 1), hour % 24 == 0 ? 1 : 0);
                Sentence.due("at hour " + hour + " at(1, 1)", x.at(1, 1), hour % 24 == 23 ? 1 : 0);
                Sentence.due("the HOUR itself goes on", x.count(2), hour);
                x.pass(1);
            }
        });
        Sentence.terms(13, "NIGHT is 18 to 23, 0 to 5", () -> {
            GonePipes x = Sentence.organ("pipe 3 0");
            for (int hour = 0; hour < 50; hour++) {
                boolean isNight = hour % 24 >= 18 || hour % 24 <= 5;
                Sentence.due("at hour " + hour + " of(0, 4)", x.of(0, 4), isNight ? 1 : 0);
                x.pass(1);
            }
        });
    }

    /** At which hours of the clock place 0 is wished, as signs. */
    private static String wished(int from, int n) {
        GonePipes x = Sentence.organ("place 0 " + from + " " + n + " 0 0");
        StringBuilder signs = new StringBuilder();
        for (int hour = 0; hour < 24; hour++) {
            signs.append(x.at(0, 1));
            x.pass(1);
        }
        return signs.toString();
    }

    private static void places() {
        Sentence.terms(3, "PLACES 0 .. 4, as they come", () -> {
            GonePipes x = new GonePipes();
            for (int i = 0; i < 5; i++) {
                Sentence.due("place", x.place(10 - i, i, i, i, i), i);
            }
            Sentence.full(x, "a 6th", () -> x.place(0, 0, 0, 0, 0));
            for (int i = 0; i < 5; i++) {
                Sentence.due("at(" + i + ", 0)", x.at(i, 0), 10 - i);
            }
        });
        String words = "WISHED from an HOUR of the clock on for n HOURS of it (0 .. 24, round)";
        String day = "0".repeat(24);
        Sentence.terms(14, words, () -> {
            for (int from : new int[] {0, 1, 12, 23}) {
                Sentence.due("for 0 hours from " + from, wished(from, 0), day);
                Sentence.due("for 24 hours from " + from, wished(from, 24), day.replace('0', '1'));
            }
        });
        Sentence.terms(14, "from an HOUR of the clock on for n HOURS of it", () -> {
            Sentence.due("for 1 hour from 0", wished(0, 1), "1" + day.substring(1));
            Sentence.due("for 1 hour from 23", wished(23, 1), day.substring(1) + "1");
            Sentence.due("for 23 hours from 0", wished(0, 23), "1".repeat(23) + "0");
            Sentence.due("for 12 hours from 6", wished(6, 12), "000000111111111111000000");
        });
        Sentence.terms(14, "of it (0 .. 24, round)", () -> {
            Sentence.due("for 4 hours from 22", wished(22, 4), "11" + "0".repeat(20) + "11");
            Sentence.due("for 2 hours from 23", wished(23, 2), "1" + "0".repeat(22) + "1");
            Sentence.due("for 23 hours from 1", wished(1, 23), "0" + "1".repeat(23));
            Sentence.due("for 23 hours from 12", wished(12, 23), "1".repeat(11) + "0" + "1".repeat(12));
        });
        Sentence.terms(14, "EAST, NORTH (0 .. 30 each; the church lies at 0, 0)", () -> {
            GonePipes x = Sentence.organ("place 0 0 0 0 0;place 0 0 0 30 30;place 0 0 0 30 0;place 0 0 0 0 30");
            Sentence.due("at(0, 3)", x.at(0, 3), 0);
            Sentence.due("at(1, 3)", x.at(1, 3), 60);
            Sentence.due("at(2, 3)", x.at(2, 3), 30);
            Sentence.due("at(3, 3)", x.at(3, 3), 30);
        });
    }

    // ---- pipes and their kinds

    private static void pipes() {
        Sentence.terms(4, "PIPES 0 .. 7, as they come: a KIND, a NOTE", () -> {
            GonePipes x = new GonePipes();
            for (int i = 0; i < 8; i++) {
                Sentence.due("pipe", x.pipe(i % 6, 35 - i), i);
            }
            Sentence.full(x, "a 9th", () -> x.pipe(0, 0));
            for (int i = 0; i < 8; i++) {
                Sentence.due("of(" + i + ", 0)", x.of(i, 0), i % 6);
                Sentence.due("of(" + i + ", 1)", x.of(i, 1), 35 - i);
            }
        });
        Sentence.terms(4, "a NOTE (0 .. 35; its TONE is that by 12 left over)", () -> {
            for (int note = 0; note <= 35; note++) {
                GonePipes x = Sentence.organ("place " + (note + 1) % 12 + " 0 24 0 0;place " + note % 12 + " 0 24 0 0;"
                    + "place " + (note + 11) % 12 + " 0 24 0 0;pipe 0 " + note);
                x.pass(1);
                Sentence.due("where a pipe of note " + note + " goes", x.of(0, 2), 1);
            }
        });
        Sentence.terms(4, "Each is in the church at first", () -> {
            GonePipes x = Sentence.organ("place 0 0 24 0 0;pipe 0 0;pass 5");
            Sentence.due("it is AWAY", x.of(0, 2), 0);
            x.organ();
            for (int i = 0; i < 8; i++) {
                x.pipe(i % 6, 0);
                Sentence.due("of(" + i + ", 2)", x.of(i, 2), -1);
                Sentence.due("of(" + i + ", 3)", x.of(i, 3), 0);
            }
        });
        Sentence.terms(13, "AWAY for so many HOURS", () -> {
            GonePipes x = Sentence.organ("place 0 0 24 0 0;pipe 0 0;pass 48;pass 48;pass 48");
            Sentence.due("of(0, 3)", x.of(0, 3), 143);
        });
    }

    private static void path(String items, String want) {
        GonePipes x = Sentence.organ(items);
        Sentence.due(items, Sentence.path(x, 0, want.length()), want);
    }

    private static void plain() {
        Sentence.terms(10, "0 PLAIN: yes;", () -> {
            GonePipes x = Sentence.organ("pipe 0 0");
            for (int hour = 0; hour < 24; hour++) {
                Sentence.due("at hour " + hour + " of(0, 4)", x.of(0, 4), 1);
                x.pass(1);
            }
            path("place 0 1 1 0 0;pipe 0 0", "0-----");
            path("place 0 12 1 0 0;pipe 0 0;pass 10", "-0-");
        });
        Sentence.terms(10, "if it is not WISHED there now", () -> {
            path("place 0 2 3 0 0;pipe 0 0", "-000----");
            path("place 0 23 3 0 0;pipe 0 0;pass 21", "-000--");
        });
        Sentence.terms(10, "comes back: 0 PLAIN: yes; if it is not WISHED there now", () -> {
            GonePipes x = Sentence.organ("place 0 0 24 0 0;pipe 0 0;pass 48;pass 48;pass 48");
            Sentence.due("wished for 24 hours: of(0, 2)", x.of(0, 2), 0);
        });
        Sentence.terms(27, "(by the HOURS of that PLACE, whatever its TONE is)", () -> {
            GonePipes x = Sentence.organ("place 0 0 24 0 0;pipe 0 0;pass 1");
            Sentence.due("it stays by every TONE: wish(0, 1)", x.wish(0, 1), 0);
            Sentence.due("it stays by every TONE: wish(0, 72)", x.wish(0, 72), 0);
            // its TONE is still wished at the other place
            path("place 3 1 1 0 0;place 3 0 24 0 0;pipe 0 3", "0-11");
        });
    }

    private static void reed() {
        Sentence.terms(10, "as PLAIN, but not ahead of 3 HOURS.", () -> {
            path("place 0 1 1 0 0;pipe 1 0", "000----");
            path("place 0 1 2 0 0;pipe 1 0", "000----");
            path("place 0 1 3 0 0;pipe 1 0", "000----");
        });
        Sentence.terms(10, "1 REED (under PLAIN): as PLAIN; as PLAIN", () -> {
            path("place 0 1 4 0 0;pipe 1 0", "0000---");
            path("place 0 1 24 0 0;pipe 1 0", "0000000");
            path("place 0 12 1 0 0;pipe 1 0;pass 10", "-000-");
        });
    }

    private static void flute() {
        Sentence.terms(13, "2 FLUTE (under PLAIN): if another PIPE is AWAY", () -> {
            GonePipes x = Sentence.organ("place 0 0 24 0 0;place 1 2 1 0 0;pipe 2 0;pipe 0 1");
            Sentence.due("none is AWAY: of(0, 4)", x.of(0, 4), 0);
            x.pass(2);
            Sentence.due("one is AWAY: of(0, 4)", x.of(0, 4), 1);
            Sentence.due("it saw none ahead of it: of(0, 2)", x.of(0, 2), -1);
        });
        Sentence.terms(13, "if another PIPE is AWAY; as PLAIN", () -> {
            GonePipes x = Sentence.organ("place 0 0 24 0 0;place 1 1 1 0 0;pipe 2 0;pipe 0 1;pass 2");
            Sentence.due("it is AWAY: of(0, 2)", x.of(0, 2), 0);
            Sentence.due("it alone is AWAY: of(1, 2)", x.of(1, 2), -1);
            Sentence.due("it is not another one: of(0, 4)", x.of(0, 4), 0);
            Sentence.due("for the other one it is: of(1, 4)", x.of(1, 4), 1);
        });
        Sentence.terms(10, "2 FLUTE (under PLAIN): if another PIPE is AWAY; as PLAIN.", () -> {
            path("place 0 0 24 0 0;pipe 2 0", "------");
            path("place 0 1 4 0 0;place 1 2 1 0 0;pipe 2 0;pipe 0 1", "--00---");
            path("place 0 12 3 0 0;place 1 0 24 0 0;pipe 2 0;pipe 0 1;pass 10", "-000-");
        });
    }

    private static void bourdon() {
        Sentence.terms(10, "3 BOURDON (under REED): as REED, at NIGHT alone", () -> {
            for (int hour = 1; hour <= 48; hour++) {
                int clock = hour % 24;
                GonePipes x = Sentence.organ("place 0 " + clock + " 1 0 0;pipe 3 0");
                for (int i = 0; i < hour - 1; i++) {
                    x.pass(1);
                    if (x.of(0, 2) == 0) {
                        x.fetch(0);
                    }
                }
                x.pass(1);
                Sentence.due("at hour " + hour + " of(0, 2)", x.of(0, 2), clock <= 5 || clock >= 18 ? 0 : -1);
            }
        });
        Sentence.terms(10, "as REED, at NIGHT alone; as REED.", () -> {
            path("place 0 1 1 0 0;pipe 3 0", "000---");
            path("place 0 5 1 0 0;pipe 3 0", "----000-");
            path("place 0 5 5 0 0;pipe 3 0", "----00000--");
        });
    }

    private static void homesick() {
        Sentence.terms(10, "4 HOMESICK (under PLAIN): as PLAIN; as PLAIN, or behind 2 HOURS.", () -> {
            path("place 0 0 24 0 0;pipe 4 0", "00-00-00-");
            path("place 0 12 9 0 0;pipe 4 0;pass 11", "00-00-00---");
        });
        Sentence.terms(10, "as PLAIN; as PLAIN, or behind 2 HOURS", () -> {
            path("place 0 1 1 0 0;pipe 4 0", "0----");
            path("place 0 1 2 0 0;pipe 4 0", "00---");
        });
    }

    private static void nightFlute() {
        Sentence.terms(13, "5 NIGHT FLUTE (under FLUTE): as FLUTE, at NIGHT alone", () -> {
            GonePipes x = Sentence.organ("place 1 12 8 0 0;pipe 5 0;pipe 0 1");
            for (int hour = 0; hour < 48; hour++) {
                int clock = hour % 24;
                boolean isAnotherAway = clock >= 12 && clock < 20;
                Sentence.due("at hour " + hour + " of(0, 4)", x.of(0, 4), isAnotherAway && clock >= 18 ? 1 : 0);
                x.pass(1);
            }
        });
        Sentence.terms(10, "as FLUTE, at NIGHT alone; never.", () -> {
            GonePipes x = Sentence.organ("place 0 2 1 0 0;place 1 1 1 0 0;pipe 0 1;pipe 5 0");
            x.pass(1);
            Sentence.due("of(0, 2)", x.of(0, 2), 1);
            x.pass(1);
            Sentence.due("the other one is back ahead of it: of(1, 2)", x.of(1, 2), -1);
            GonePipes y = Sentence.organ("place 0 2 1 0 0;place 1 1 2 0 0;pipe 0 1;pipe 5 0;pass 2");
            Sentence.due("it goes: of(1, 2)", y.of(1, 2), 0);
            y.pass(48);
            y.pass(48);
            Sentence.due("it never comes back: of(1, 2)", y.of(1, 2), 0);
            Sentence.due("of(1, 3)", y.of(1, 3), 96);
        });
    }

    // ---- an hour

    private static void anHour() {
        Sentence.terms(10, "AN HOUR goes by: it is one more; then by numbers each PIPE", () -> {
            GonePipes x = Sentence.organ("place 0 0 1 0 0;place 0 1 1 0 0;pipe 0 0");
            Sentence.due("at(0, 1)", x.at(0, 1), 1);
            x.pass(1);
            Sentence.due("it goes by the new HOUR: of(0, 2)", x.of(0, 2), 1);
        });
        Sentence.terms(10, "then by numbers each PIPE", () -> {
            GonePipes x = Sentence.organ("place 0 0 24 0 0;pipe 0 0;pipe 0 0;pass 1");
            Sentence.due("the lower one goes: of(0, 2)", x.of(0, 2), 0);
            Sentence.due("the other one does not: of(1, 2)", x.of(1, 2), -1);
            GonePipes y = Sentence.organ("place 0 0 24 0 0;place 1 0 24 0 0;pipe 2 0;pipe 0 1;pipe 2 0;pass 1");
            Sentence.due("a flute ahead of it sees it not AWAY: of(0, 2)", y.of(0, 2), -1);
            Sentence.due("a flute behind it sees it AWAY: of(2, 2)", y.of(2, 2), 0);
        });
        Sentence.terms(10, "if it is AWAY, it is so for an HOUR more, comes back, if it does", () -> {
            GonePipes x = Sentence.organ("place 0 1 3 0 0;pipe 0 0;pass 1");
            for (int hour = 0; hour < 3; hour++) {
                Sentence.due("of(0, 3)", x.of(0, 3), hour);
                x.pass(1);
            }
            Sentence.due("it is back: of(0, 2)", x.of(0, 2), -1);
            Sentence.due("it is back: of(0, 3)", x.of(0, 3), 0);
        });
        Sentence.terms(10, "(AWAY for 0 HOURS then)", () -> {
            GonePipes x = Sentence.organ("place 0 1 2 0 0;place 0 4 2 0 0;pipe 0 0;pass 4");
            Sentence.due("gone again: of(0, 2)", x.of(0, 2), 1);
            Sentence.due("of(0, 3)", x.of(0, 3), 0);
        });
        Sentence.terms(10, "One that comes back does not go in that HOUR.", () -> {
            path("place 0 1 1 0 0;place 0 2 9 0 0;pipe 0 0", "0-11");
            path("place 0 0 24 0 0;place 0 0 24 0 0;pipe 4 0", "00-00-");
        });
    }

    private static void whereTheyGo() {
        String words = "goes to the first PLACE of its TONE at which that is WISHED now, and no other PIPE is, if it does";
        Sentence.terms(10, words, () -> {
            path("place 1 0 24 0 0;place 0 0 24 0 0;place 0 0 24 0 0;pipe 0 0", "1");
            path("place 0 2 9 0 0;place 0 3 9 0 0;place 0 1 9 0 0;pipe 0 0", "2");
            path("place 0 0 0 0 0;place 0 0 24 0 0;pipe 0 0", "1");
        });
        Sentence.terms(10, "of its TONE at which that is WISHED now", () -> {
            path("pipe 0 0", "---");
            path("place 0 0 0 0 0;place 1 0 24 0 0;place 11 0 24 0 0;pipe 0 0", "---");
            path("place 4 0 24 0 0;place 4 0 24 0 0;place 4 0 24 0 0;place 4 0 24 0 0;place 0 0 24 0 0;pipe 0 0", "4");
        });
        Sentence.terms(10, "and no other PIPE is, if it does", () -> {
            GonePipes x = Sentence.organ("place 0 0 24 0 0;place 0 0 24 0 0;pipe 0 0;pipe 0 12;pipe 0 24");
            Sentence.due("two of three go: pass(1)", x.pass(1), 1);
            Sentence.due("at(0, 2)", x.at(0, 2), 1);
            Sentence.due("at(1, 2)", x.at(1, 2), 2);
            Sentence.due("all places are taken: pass(48)", x.pass(48), 1);
            Sentence.due("of(2, 2)", x.of(2, 2), -1);
            x.fetch(0);
            x.fetch(1);
            Sentence.due("places that were left: pass(1)", x.pass(1), 1);
        });
        Sentence.terms(10, "by numbers each PIPE: if it is AWAY", () -> {
            GonePipes x = Sentence.organ("place 0 0 24 0 0;pipe 4 0;pipe 0 0;pass 3");
            Sentence.due("left in this hour, it is free behind: at(0, 2)", x.at(0, 2), 2);
            GonePipes y = Sentence.organ("place 0 0 24 0 0;pipe 2 0;pipe 4 0;pass 3");
            Sentence.due("left in this hour, behind the turn of the other: at(0, 2)", y.at(0, 2), 0);
        });
    }

    // ---- hymns

    private static void hymns() {
        Sentence.terms(5, "HYMNS 0 .. 2: rows of NOTES (8 at most)", () -> {
            GonePipes x = new GonePipes();
            for (int i = 1; i <= 24; i++) {
                Sentence.due("note", x.note((i - 1) / 8, i), (i - 1) % 8 + 1);
            }
            for (int hymn = 0; hymn < 3; hymn++) {
                int k = hymn;
                Sentence.full(x, "a 9th", () -> x.note(k, 0));
            }
        });
        Sentence.terms(17, "With a SHIFT (-6 .. 6) a NOTE is so much higher", () -> {
            GonePipes x = Sentence.organ("pipe 0 9;pipe 0 21;hymn 0 15;hymn 1 20");
            for (int shift = -6; shift <= 6; shift++) {
                Sentence.due("plays(0, " + shift + ")", x.plays(0, shift), shift == -6 || shift == 6 ? 1 : 0);
                Sentence.due("plays(1, " + shift + ")", x.plays(1, shift), shift == 1 ? 1 : 0);
            }
        });
        Sentence.terms(17, "it is PLAYED, if a PIPE of just that NOTE is in the church", () -> {
            GonePipes x = Sentence.organ("place 0 2 24 0 0;pipe 0 12;hymn 0 0;hymn 1 24;hymn 2 12");
            Sentence.due("not an octave lower: plays(0, 0)", x.plays(0, 0), 0);
            Sentence.due("not an octave higher: plays(1, 0)", x.plays(1, 0), 0);
            Sentence.due("just that: plays(2, 0)", x.plays(2, 0), 1);
            x.pass(1);
            Sentence.due("AWAY: plays(2, 0)", x.plays(2, 0), 0);
            x.pipe(0, 12);
            Sentence.due("another one of that note: plays(2, 0)", x.plays(2, 0), 1);
        });
        Sentence.terms(17, "With a SHIFT (-6 .. 6) a NOTE is so much higher; it is PLAYED, if", () -> {
            GonePipes x = Sentence.organ("pipe 0 0;pipe 0 35;pipe 0 30;pipe 0 5;hymn 0 0 5;hymn 1 35 30;hymn 2 0 35");
            Sentence.due("lower than 0: plays(0, -6)", x.plays(0, -6), 0);
            Sentence.due("to 0: plays(0, -5)", x.plays(0, -5), 1);
            Sentence.due("higher than 35: plays(1, 6)", x.plays(1, 6), 0);
            Sentence.due("to 35: plays(1, 5)", x.plays(1, 5), 1);
            Sentence.due("the least and the most: plays(2, 0)", x.plays(2, 0), 2);
            Sentence.due("plays(2, 1)", x.plays(2, 1), 0);
            Sentence.due("plays(2, -1)", x.plays(2, -1), 0);
        });
        Sentence.terms(17, "PLAYS: how many NOTES of a HYMN are PLAYED by a SHIFT", () -> {
            GonePipes x = Sentence.organ("pipe 0 3;hymn 0 3 3 3 3 3 3 3 3;hymn 1 3 4 3");
            Sentence.due("all 8: plays(0, 0)", x.plays(0, 0), 8);
            Sentence.due("some: plays(1, 0)", x.plays(1, 0), 2);
            Sentence.due("of none: plays(2, 0)", x.plays(2, 0), 0);
            x.organ();
            x.note(0, 3);
            Sentence.due("no pipes: plays(0, 0)", x.plays(0, 0), 0);
        });
    }

    // ---- what comes

    private static void ahead() {
        Sentence.terms(15, "THEN: where a PIPE is behind m HOURS (0 .. 72)", () -> {
            GonePipes x = Sentence.organ("place 0 0 1 0 0;pipe 0 0");
            Sentence.asks(x, "then(0, 0)", () -> x.then(0, 0), -1);
            Sentence.asks(x, "then(23, 0)", () -> x.then(23, 0), -1);
            Sentence.asks(x, "then(24, 0)", () -> x.then(24, 0), 0);
            Sentence.asks(x, "then(25, 0)", () -> x.then(25, 0), -1);
            Sentence.asks(x, "then(71, 0)", () -> x.then(71, 0), -1);
            Sentence.asks(x, "then(72, 0)", () -> x.then(72, 0), 0);
            x.pass(24);
            Sentence.asks(x, "behind 0 hours: then(0, 0)", () -> x.then(0, 0), 0);
        });
        Sentence.terms(16, "how many are in the church", () -> {
            GonePipes x = Sentence.organ("place 0 0 1 0 0;pipe 0 0;pipe 0 1");
            Sentence.asks(x, "left(0)", () -> x.left(0), 2);
            Sentence.asks(x, "left(71)", () -> x.left(71), 2);
            Sentence.asks(x, "left(72)", () -> x.left(72), 1);
            GonePipes y = new GonePipes();
            Sentence.asks(y, "no pipes: left(72)", () -> y.left(72), 0);
        });
        Sentence.terms(15, "(Nothing is changed by these.)", () -> {
            GonePipes x = everything();
            for (int i = 0; i < 2; i++) {
                x.then(72, 1);
                x.left(72);
                x.plays(0, 6);
                x.best(0);
                x.missing(0, -6);
                x.fetchAll(0);
                x.falls(0);
                x.walk(63, 0);
                x.walk(63, 1);
                x.may(2);
                x.listen(2, 72);
                x.wish(2, 72);
                x.hours(999999, 60);
            }
            GonePipes y = everything();
            Sentence.due("digest()", x.digest(), y.digest());
            for (int i = 0; i < 9; i++) {
                Sentence.due("undo()", x.undo(), y.undo());
                Sentence.due("undo(), digest()", x.digest(), y.digest());
            }
        });
    }

    private static GonePipes everything() {
        GonePipes x = Sentence.organ("place 0 1 9 3 0;place 1 0 24 0 7;place 2 18 9 2 2;pipe 0 0;pipe 1 13;pipe 2 26;"
            + "pipe 3 1;pipe 4 0;pipe 5 2;hymn 0 0 13;pass 5");
        x.reading(2, 7, 2, 1);
        x.fetch(1);
        x.pass(1);
        return x;
    }

    private static void bestAndMissing() {
        Sentence.terms(18, "BEST SHIFT: by which most are", () -> {
            GonePipes x = Sentence.organ("pipe 0 9;pipe 0 10;hymn 0 4 5;hymn 1 15 16;hymn 2 9 4 5");
            Sentence.due("5, not 4 or 6: best(0)", x.best(0), 5);
            Sentence.due("-6: best(1)", x.best(1), -6);
            Sentence.due("2 are more than 1: best(2)", x.best(2), 5);
            GonePipes y = Sentence.organ("pipe 0 9;hymn 0 3;hymn 1 2;hymn 2 16");
            Sentence.due("6: best(0)", y.best(0), 6);
            Sentence.due("7 is no shift: best(1)", y.best(1), 0);
            Sentence.due("-7 is no shift: best(2)", y.best(2), 0);
        });
        Sentence.terms(18, "of like ones the least change, then the lower one", () -> {
            GonePipes x = Sentence.organ("pipe 0 8;pipe 0 12;hymn 0 10;hymn 1 9;hymn 2 11");
            Sentence.due("-2 or 2: best(0)", x.best(0), -2);
            Sentence.due("-1 or 3: best(1)", x.best(1), -1);
            Sentence.due("-3 or 1: best(2)", x.best(2), 1);
            GonePipes y = Sentence.organ("pipe 0 4;pipe 0 16;hymn 0 10;hymn 1 4 22;hymn 2 20");
            Sentence.due("-6 or 6: best(0)", y.best(0), -6);
            Sentence.due("-6, 0: best(1)", y.best(1), 0);
            Sentence.due("-4 alone: best(2)", y.best(2), -4);
            Sentence.due("none by any: best(0)", new GonePipes().best(0), 0);
        });
        Sentence.terms(19, "MISSING: TONES (bits; of the NOTES as they are in the HYMN) that are not PLAYED by a SHIFT", () -> {
            GonePipes x = Sentence.organ("pipe 0 12;hymn 0 0 11 12 23;hymn 1 12 12;hymn 2 6 18");
            Sentence.due("the least, the most TONE: missing(0, 0)", x.missing(0, 0), 1 | 1 << 11);
            Sentence.due("none: missing(1, 0)", x.missing(1, 0), 0);
            Sentence.due("as they are, not as shifted: missing(2, 6)", x.missing(2, 6), 1 << 6);
            Sentence.due("a TONE of two, one of which is PLAYED: missing(2, -6)", x.missing(2, -6), 1 << 6);
            Sentence.due("all: missing(1, 1)", x.missing(1, 1), 1);
            GonePipes y = Sentence.organ("pipe 0 12;hymn 0 10");
            Sentence.due("2 higher: missing(0, 2)", y.missing(0, 2), 0);
            Sentence.due("2 lower: missing(0, -2)", y.missing(0, -2), 1 << 10);
        });
        Sentence.terms(19, "that are not PLAYED by a SHIFT", () -> {
            GonePipes x = Sentence.organ("place 0 1 24 0 0;pipe 0 12;hymn 0 12;hymn 1 35 0");
            Sentence.due("missing(0, 0)", x.missing(0, 0), 0);
            x.pass(1);
            Sentence.due("AWAY: missing(0, 0)", x.missing(0, 0), 1);
            Sentence.due("higher than 35: missing(1, 6)", x.missing(1, 6), 1 << 11 | 1);
            Sentence.due("lower than 0: missing(1, -6)", x.missing(1, -6), 1 << 11 | 1);
            Sentence.due("an empty hymn: missing(2, 0)", x.missing(2, 0), 0);
        });
    }

    private static void fetchAll() {
        Sentence.terms(20, "so that by some SHIFT all NOTES of a HYMN are PLAYED", () -> {
            GonePipes x = Sentence.organ("place 0 1 24 0 0;pipe 0 12;hymn 0 6;hymn 1 18;hymn 2 5;pass 1");
            Sentence.due("by 6: fetchAll(0)", x.fetchAll(0), 1);
            Sentence.due("by -6: fetchAll(1)", x.fetchAll(1), 1);
            Sentence.asks(x, "by 7: fetchAll(2)", () -> x.fetchAll(2), -1);
        });
        Sentence.terms(20, "FETCH ALL: the fewest PIPES (bits; of like ones the least) to be fetched", () -> {
            GonePipes x = Sentence.organ("place 0 1 24 0 0;place 0 1 24 0 0;place 2 1 24 0 0;pipe 0 0;pipe 0 0;pipe 0 2;"
                + "pipe 0 7;hymn 0 0;hymn 1 0 2;hymn 2 0 0 0 2;pass 1");
            Sentence.due("by 2 or 0, 1 of 3: fetchAll(0)", x.fetchAll(0), 1);
            Sentence.due("two: fetchAll(1)", x.fetchAll(1), 1 | 4);
            Sentence.due("a note told often: fetchAll(2)", x.fetchAll(2), 1 | 4);
            x.hush(0);
            Sentence.put(x, "hymn 0 2 7");
            Sentence.due("one alone is fewer than two, though more: fetchAll(0)", x.fetchAll(0), 4);
            x.fetch(2);
            Sentence.due("none is fetched: fetchAll(0)", x.fetchAll(0), 0);
        });
        Sentence.terms(20, "(bits; of like ones the least)", () -> {
            GonePipes x = Sentence.organ("place 5 1 24 0 0;place 3 1 24 0 0;pipe 0 5;pipe 0 3;hymn 0 4;hymn 1 2;pass 1");
            Sentence.due("pipe 1 by -1, pipe 0 by 1: fetchAll(0)", x.fetchAll(0), 1);
            Sentence.due("pipe 1 by 1, pipe 0 by 3: fetchAll(1)", x.fetchAll(1), 1);
            GonePipes y = Sentence.organ("place 3 1 24 0 0;place 5 1 24 0 0;pipe 0 3;pipe 0 5;hymn 0 4;hymn 1 2;pass 1");
            Sentence.due("pipe 0 by -1, pipe 1 by 1: fetchAll(0)", y.fetchAll(0), 1);
            Sentence.due("pipe 0 by 1, pipe 1 by 3: fetchAll(1)", y.fetchAll(1), 1);
            GonePipes z = Sentence.organ("place 7 1 24 0 0;pipe 0 1;pipe 0 1;pipe 0 1;pipe 0 1;pipe 0 1;pipe 0 1;pipe 0 1;"
                + "pipe 0 31;hymn 0 31;pass 1");
            Sentence.due("the last pipe: fetchAll(0)", z.fetchAll(0), 128);
        });
        Sentence.terms(20, "are PLAYED; none.", () -> {
            GonePipes x = Sentence.organ("hymn 0 1");
            Sentence.asks(x, "no pipes: fetchAll(0)", () -> x.fetchAll(0), -1);
            Sentence.asks(x, "an empty hymn: fetchAll(1)", () -> x.fetchAll(1), 0);
            x.pipe(0, 20);
            Sentence.asks(x, "no pipe of it: fetchAll(0)", () -> x.fetchAll(0), -1);
        });
    }

    private static void falls() {
        Sentence.terms(21, "FALLS: in how many HOURS (0 .. 48) it first can not be PLAYED whole by any SHIFT", () -> {
            GonePipes x = Sentence.organ("place 0 0 1 0 0;pipe 0 0;hymn 0 0;hymn 1 7;hymn 2 6");
            Sentence.asks(x, "in 24: falls(0)", () -> x.falls(0), 24);
            Sentence.asks(x, "now: falls(1)", () -> x.falls(1), 0);
            Sentence.asks(x, "whole by -6: falls(2)", () -> x.falls(2), 24);
            x.pass(23);
            Sentence.asks(x, "in 1: falls(0)", () -> x.falls(0), 1);
            x.pass(1);
            Sentence.asks(x, "in 0: falls(0)", () -> x.falls(0), 0);
            x.pass(1);
            Sentence.asks(x, "in 23: falls(0)", () -> x.falls(0), 23);
        });
        Sentence.terms(21, "in how many HOURS (0 .. 48)", () -> {
            // at 24 the flute plays it by a shift, at 25 it goes for good, at 48 the other one goes
            GonePipes x = Sentence.organ("place 1 14 24 0 0;place 0 0 1 0 0;pipe 2 1;pipe 0 0;hymn 0 0");
            Sentence.asks(x, "in 48: falls(0)", () -> x.falls(0), 48);
            // the night flutes go for good at 23 and 46, the plain one at 57
            GonePipes y = Sentence.organ("place 0 9 3 0 0;place 1 3 24 0 0;place 0 22 2 0 0;pipe 5 1;pipe 5 0;pipe 0 0;"
                + "hymn 0 0;pass 8");
            Sentence.asks(y, "in 49: falls(0)", () -> y.falls(0), -1);
            y.pass(1);
            Sentence.asks(y, "in 48, an hour later: falls(0)", () -> y.falls(0), 48);
        });
        Sentence.terms(21, "by any SHIFT; none.", () -> {
            GonePipes x = Sentence.organ("place 0 0 24 0 0;pipe 0 0;pipe 0 11;hymn 0 5;hymn 1 17;hymn 2 4");
            Sentence.asks(x, "6 higher to the end: falls(0)", () -> x.falls(0), -1);
            Sentence.asks(x, "6 lower to the end: falls(1)", () -> x.falls(1), -1);
            Sentence.asks(x, "7 higher is none: falls(2)", () -> x.falls(2), 1);
            GonePipes y = new GonePipes();
            Sentence.asks(y, "an empty hymn: falls(0)", () -> y.falls(0), -1);
        });
    }

    private static void walk() {
        String five = "place 0 0 24 10 0;place 1 0 24 0 10;place 2 0 24 10 10;place 3 0 24 5 0;place 4 0 24 0 0;";
        Sentence.terms(22, "from the church to all PLACES where they are, and back", () -> {
            GonePipes x = Sentence.organ(five + "pipe 0 0;pipe 0 1;pipe 0 2;pipe 0 3;pipe 0 4;pipe 0 9;pass 1");
            Sentence.due("one: walk(1, 0)", x.walk(1, 0), 20);
            Sentence.due("two on one line: walk(9, 0)", x.walk(9, 0), 20);
            Sentence.due("three round: walk(7, 0)", x.walk(7, 0), 40);
            Sentence.due("all: walk(63, 0)", x.walk(63, 0), 40);
            Sentence.due("one in the church too: walk(33, 0)", x.walk(33, 0), 20);
            Sentence.due("where the church lies: walk(16, 0)", x.walk(16, 0), 0);
            Sentence.due("where the church lies: walk(16, 1)", x.walk(16, 1), 4);
        });
        Sentence.terms(22, "as far as EAST and NORTH tell together (no slant): the least", () -> {
            GonePipes x = Sentence.organ("place 0 0 24 30 30;place 1 0 24 1 0;place 2 0 24 0 2;place 3 0 24 30 0;"
                + "place 4 0 24 0 30;pipe 0 0;pipe 0 1;pipe 0 2;pipe 0 3;pipe 0 4;pass 1");
            Sentence.due("the farthest: walk(1, 0)", x.walk(1, 0), 120);
            Sentence.due("all corners: walk(25, 0)", x.walk(25, 0), 120);
            Sentence.due("all five: walk(31, 0)", x.walk(31, 0), 120);
            Sentence.due("two near ones: walk(6, 0)", x.walk(6, 0), 6);
            GonePipes y = Sentence.organ("place 0 0 24 1 9;place 1 0 24 2 1;place 2 0 24 9 1;place 3 0 24 8 8;place 4 0 24 3 3;"
                + "pipe 0 0;pipe 0 1;pipe 0 2;pipe 0 3;pipe 0 4;pass 1");
            Sentence.due("the least of 120 rows: walk(31, 0)", y.walk(31, 0), 40);
        });
        Sentence.terms(22, "GO FIRST: the PLACE one goes to first (of like short walks the least row of PLACES)", () -> {
            GonePipes x = Sentence.organ(five + "pipe 0 0;pipe 0 1;pipe 0 2;pipe 0 3;pipe 0 4;pass 1");
            Sentence.due("0 2 1 or 1 2 0: walk(7, 1)", x.walk(7, 1), 0);
            Sentence.due("0 3 or 3 0: walk(9, 1)", x.walk(9, 1), 0);
            Sentence.due("1 2 0 3, not 0 first: walk(15, 1)", x.walk(15, 1), 1);
            Sentence.due("2 3 or 3 2: walk(12, 1)", x.walk(12, 1), 2);
            Sentence.due("3 4 or 4 3: walk(24, 1)", x.walk(24, 1), 3);
            GonePipes y = Sentence.organ("place 0 0 24 9 9;place 1 0 24 0 0;pipe 0 0;pipe 0 1;pass 1");
            Sentence.due("0 1 or 1 0: walk(3, 1)", y.walk(3, 1), 0);
            GonePipes z = Sentence.organ("place 0 0 24 9 0;place 1 0 24 0 9;place 2 0 24 0 9;pipe 0 2;pipe 0 1;pass 1");
            Sentence.due("by places, not by pipes: walk(3, 1)", z.walk(3, 1), 1);
        });
        Sentence.terms(22, "none: all are in the church", () -> {
            GonePipes x = Sentence.organ("place 0 0 24 3 4;pipe 0 0;pipe 0 1;pass 1");
            Sentence.asks(x, "no pipe: walk(0, 1)", () -> x.walk(0, 1), -1);
            Sentence.asks(x, "no pipe: walk(0, 0)", () -> x.walk(0, 0), 0);
            Sentence.asks(x, "one in the church: walk(2, 1)", () -> x.walk(2, 1), -1);
            Sentence.asks(x, "one in the church: walk(2, 0)", () -> x.walk(2, 0), 0);
            Sentence.asks(x, "one is AWAY: walk(3, 1)", () -> x.walk(3, 1), 0);
            Sentence.asks(x, "behind a walk: walk(2, 0)", () -> x.walk(2, 0), 0);
            Sentence.asks(x, "behind a walk: walk(2, 1)", () -> x.walk(2, 1), -1);
            GonePipes y = new GonePipes();
            Sentence.asks(y, "no pipes: walk(0, 1)", () -> y.walk(0, 1), -1);
        });
    }

    // ---- what was heard

    private static void readings() {
        Sentence.terms(23, "READINGS 0 .. 5, as they come", () -> {
            GonePipes x = Sentence.organ("place 0 0 24 0 0;pipe 0 1");
            for (int i = 1; i <= 6; i++) {
                Sentence.due("reading", x.reading(0, 0, 0, 0), i);
            }
            Sentence.full(x, "a 7th", () -> x.reading(0, 0, 0, 0));
        });
        Sentence.terms(25, "m HOURS (0 .. 72) from now a PIPE is heard at a PLACE, or is not (1, 0)", () -> {
            GonePipes x = Sentence.organ("place 0 0 1 0 0;pipe 0 0");
            may(x, 0, 0, 63);
            may(x, 71, 0, 63);
            may(x, 72, 0, 4 | 32);
            may(x, 0, 1, 0);
            may(x, 71, 1, 0);
            // FLUTE and NIGHT FLUTE do not go alone
            may(x, 72, 1, 1 | 2 | 8 | 16);
            x.pass(24);
            may(x, 0, 1, 63);
            may(x, 0, 0, 0);
            may(x, 72, 1, 1 | 2 | 8 | 16 | 32);
        });
        Sentence.terms(25, "MAY: KINDS (bits) by which, were a PIPE of it, all READINGS are so", () -> {
            GonePipes x = Sentence.organ("place 0 1 1 0 0;place 1 0 24 0 0;pipe 0 0;pipe 0 1");
            Sentence.asks(x, "no readings: may(0)", () -> x.may(0), 63);
            x.reading(0, 1, 0, 1);
            Sentence.asks(x, "one: may(0)", () -> x.may(0), 1 | 2 | 8 | 16);
            x.reading(0, 2, 0, 0);
            Sentence.asks(x, "two: may(0)", () -> x.may(0), 1 | 16);
            x.reading(1, 3, 1, 0);
            Sentence.asks(x, "one of the other PIPE, that is not so: may(0)", () -> x.may(0), 0);
            Sentence.asks(x, "by HOMESICK all are so: may(1)", () -> x.may(1), 16);
            x.reading(1, 3, 1, 1);
            Sentence.asks(x, "one and its opposite: may(1)", () -> x.may(1), 0);
        });
    }

    private static void may(GonePipes x, int m, int heard, int want) {
        x.forget();
        x.reading(0, m, 0, heard);
        Sentence.due("by a reading in " + m + " hours, " + heard + ": may(0)", x.may(0), want);
    }

    private static void listen() {
        Sentence.terms(26, "LISTEN for a PIPE in m HOURS: the PLACE at which, by whether that PIPE is there then, the greater "
            + "part of its KINDS that MAY be is least", () -> {
                GonePipes x = Sentence.organ("place 5 0 24 0 0;place 0 0 1 0 0;pipe 0 0");
                Sentence.asks(x, "4 and 2 at place 1: listen(0, 72)", () -> x.listen(0, 72), 1);
                Sentence.asks(x, "6 and 0 at each: listen(0, 71)", () -> x.listen(0, 71), 0);
                x.reading(0, 72, 1, 0);
                Sentence.asks(x, "2 and 0 at each: listen(0, 72)", () -> x.listen(0, 72), 0);
                // REED and BOURDON are still where it was heard, PLAIN and HOMESICK at place 2
                GonePipes y = Sentence.organ("place 5 0 24 0 0;place 0 1 1 0 0;place 0 2 24 0 0;pipe 0 0");
                y.reading(0, 1, 1, 1);
                Sentence.asks(y, "2 and 2 at places 1, 2: listen(0, 3)", () -> y.listen(0, 3), 1);
                y.reading(0, 2, 1, 0);
                Sentence.asks(y, "PLAIN, HOMESICK: may(0)", () -> y.may(0), 1 | 16);
                Sentence.asks(y, "HOMESICK is back: listen(0, 5)", () -> y.listen(0, 5), 2);
            });
        Sentence.terms(26, "of like ones the first; none: no KIND may be, no PLACES", () -> {
            GonePipes x = Sentence.organ("place 0 0 24 0 0;place 0 0 24 0 0;pipe 0 0");
            Sentence.asks(x, "listen(0, 0)", () -> x.listen(0, 0), 0);
            GonePipes y = Sentence.organ("place 5 0 24 0 0;place 0 5 9 0 0;place 1 0 24 0 0;pipe 0 0");
            Sentence.asks(y, "listen(0, 4)", () -> y.listen(0, 4), 0);
        });
        Sentence.terms(26, "none: no KIND may be", () -> {
            GonePipes x = Sentence.organ("place 0 0 24 0 0;pipe 0 0");
            x.reading(0, 0, 0, 1);
            Sentence.asks(x, "listen(0, 1)", () -> x.listen(0, 1), -1);
            x.forget();
            x.reading(0, 1, 0, 1);
            x.reading(0, 1, 0, 0);
            Sentence.asks(x, "listen(0, 72)", () -> x.listen(0, 72), -1);
        });
        Sentence.terms(26, "no KIND may be, no PLACES", () -> {
            GonePipes x = Sentence.organ("pipe 0 0");
            Sentence.asks(x, "listen(0, 0)", () -> x.listen(0, 0), -1);
            Sentence.asks(x, "listen(0, 72)", () -> x.listen(0, 72), -1);
        });
    }

    private static void wish() {
        Sentence.terms(27, "WISH of a PLACE for m HOURS: the TONE (0 .. 11) it should have", () -> {
            // by 11 it goes to place 0 at 1 and is back at 2; by another it goes to place 1 and stays
            GonePipes x = Sentence.organ("place 0 1 1 0 0;place 11 0 24 0 0;pipe 0 35");
            Sentence.asks(x, "the most: wish(0, 2)", () -> x.wish(0, 2), 11);
            GonePipes y = Sentence.organ("place 11 1 1 0 0;place 0 0 24 0 0;pipe 0 0");
            Sentence.asks(y, "the least: wish(0, 2)", () -> y.wish(0, 2), 0);
            GonePipes z = Sentence.organ("place 5 0 24 0 0;pipe 0 0;pipe 0 1;pipe 0 2;pipe 0 3;pipe 0 4;pipe 0 5;pipe 0 6;"
                + "pipe 0 7");
            Sentence.asks(z, "none wants 8: wish(0, 1)", () -> z.wish(0, 1), 8);
        });
        Sentence.terms(27, "so that most PIPES are in the church behind m HOURS (0 .. 72); of like ones the least", () -> {
            GonePipes x = Sentence.organ("place 0 0 1 0 0;pipe 0 0;pipe 0 2");
            Sentence.asks(x, "now: wish(0, 0)", () -> x.wish(0, 0), 0);
            Sentence.asks(x, "in 71: wish(0, 71)", () -> x.wish(0, 71), 0);
            Sentence.asks(x, "in 72: wish(0, 72)", () -> x.wish(0, 72), 1);
            GonePipes y = Sentence.organ("place 3 0 1 0 0");
            Sentence.asks(y, "no pipes: wish(0, 72)", () -> y.wish(0, 72), 0);
        });
    }

    private static void feast() {
        Sentence.terms(28, "each PIPE that is AWAY comes back by c of 10 (0 .. 10), apart", () -> {
            GonePipes x = Sentence.organ("place 0 0 24 0 0;place 0 0 24 0 0;place 1 0 24 0 0;pipe 0 12;pipe 0 12;pipe 0 13;"
                + "pipe 0 20;hymn 0 12 12 13;hymn 1 12;hymn 2 20;pass 1");
            fraction(x, 0, 0, 0, 1);
            fraction(x, 0, 10, 1, 1);
            fraction(x, 1, 1, 19, 100);
            fraction(x, 1, 9, 99, 100);
            fraction(x, 0, 5, 3, 8);
            fraction(x, 0, 1, 19, 1000);
            fraction(x, 2, 0, 1, 1);
            fraction(x, 2, 10, 1, 1);
        });
        Sentence.terms(28, "the chance that a HYMN is PLAYED whole by a SHIFT", () -> {
            GonePipes x = Sentence.organ("place 0 0 24 0 0;pipe 0 12;hymn 0 6;hymn 1 18;hymn 2 6 7;pass 1");
            Sentence.due("feast(0, 6, 3)", x.feast(0, 6, 3), 1);
            Sentence.due("by 6: part(0)", x.part(0), 3);
            x.feast(0, 5, 10);
            Sentence.due("by 5: part(0)", x.part(0), 0);
            x.feast(1, -6, 10);
            Sentence.due("by -6: part(0)", x.part(0), 1);
            x.feast(2, 6, 10);
            Sentence.due("one is of no pipe: part(0)", x.part(0), 0);
            x.hush(2);
            x.feast(2, 0, 0);
            Sentence.due("an empty hymn: part(0)", x.part(0), 1);
            Sentence.due("an empty hymn: part(1)", x.part(1), 1);
        });
        Sentence.terms(30, "THE FRACTION is 0 by 1 at first; lowest terms, below above 0.", () -> {
            GonePipes x = Sentence.organ("place 0 0 24 0 0;place 1 0 24 0 0;place 2 0 24 0 0;place 3 0 24 0 0;place 4 0 24 0 0;"
                + "pipe 0 0;pipe 0 1;pipe 0 2;pipe 0 3;pipe 0 4;hymn 0 0 1 2 3 4;hymn 1 0;hymn 2 30;pass 1");
            Sentence.due("at first: part(0)", x.part(0), 0);
            Sentence.due("at first: part(1)", x.part(1), 1);
            fraction(x, 0, 9, 59049, 100000);
            fraction(x, 0, 2, 1, 3125);
            fraction(x, 1, 5, 1, 2);
            fraction(x, 1, 4, 2, 5);
            fraction(x, 2, 4, 0, 1);
            fraction(x, 0, 0, 0, 1);
            fraction(x, 0, 10, 1, 1);
        });
    }

    private static void fraction(GonePipes x, int hymn, int c, long above, long below) {
        x.feast(hymn, 0, c);
        Sentence.due("feast(" + hymn + ", 0, " + c + "), part(0)", x.part(0), above);
        Sentence.due("feast(" + hymn + ", 0, " + c + "), part(1)", x.part(1), below);
    }

    private static void hours() {
        String words = "X is SEED at first; ahead of each HOUR X becomes X times 1103515245 and 12345, by 2147483648 what is "
            + "left over; X by 65536 (cut), by how many PIPES left over, is fetched, if it is AWAY";
        Sentence.terms(29, words, () -> {
            for (int pipes = 1; pipes <= 8; pipes++) {
                for (int seed : new int[] {0, 1, 65535, 65536, 999999}) {
                    for (int n : new int[] {0, 1, 2, 20, 60}) {
                        seeded(pipes, seed, n);
                    }
                }
            }
        });
        Sentence.terms(29, "how many are AWAY at the end; none: no PIPES", () -> {
            GonePipes x = Sentence.organ("place 0 0 24 0 0");
            Sentence.asks(x, "no pipes: hours(0, 0)", () -> x.hours(0, 0), -1);
            Sentence.asks(x, "no pipes: hours(999999, 60)", () -> x.hours(999999, 60), -1);
            Sentence.put(x, "pipe 0 0;pipe 0 1;pass 1");
            Sentence.asks(x, "hours(7, 0)", () -> x.hours(7, 0), 1);
        });
    }

    /** Five night flutes' places are wished for but an hour, so that one that was fetched stays in the church. */
    private static GonePipes nightOrgan(int pipes) {
        GonePipes x = Sentence.organ("place 0 1 2 0 0;place 1 1 2 0 0;place 2 1 3 0 0;place 3 1 2 0 0;place 4 20 3 0 0");
        for (int i = 0; i < pipes; i++) {
            x.pipe(i == 0 ? 0 : i < 6 ? 5 : i % 5, i % 5);
        }
        x.pass(2);
        return x;
    }

    private static void seeded(int pipes, int seed, int n) {
        GonePipes x = nightOrgan(pipes);
        BigInteger state = BigInteger.valueOf(seed);
        for (int i = 0; i < n; i++) {
            state = state.multiply(BigInteger.valueOf(1103515245)).add(BigInteger.valueOf(12345))
                .mod(BigInteger.ONE.shiftLeft(31));
            x.fetch(state.shiftRight(16).intValue() % pipes);
            x.pass(1);
        }
        GonePipes y = nightOrgan(pipes);
        Sentence.asks(y, pipes + " pipes: hours(" + seed + ", " + n + ")", () -> y.hours(seed, n), x.count(3));
    }

    // ---- undone, kept, refused

    private static void undo() {
        String items = "place 0 0 24 0 0;pipe 0 0;";
        Sentence.terms(12, "UNDO: the HOUR, where PIPES are, for how long, as ahead of the last HOUR gone by", () -> {
            GonePipes x = Sentence.organ(items + "pass 3");
            x.undo();
            Sentence.due("count(2)", x.count(2), 2);
            Sentence.due("of(0, 2)", x.of(0, 2), 0);
            Sentence.due("of(0, 3)", x.of(0, 3), 1);
            x.undo();
            x.undo();
            Sentence.due("count(2)", x.count(2), 0);
            Sentence.due("of(0, 2)", x.of(0, 2), -1);
        });
        Sentence.terms(12, "the last HOUR gone by, PIPE fetched", () -> {
            GonePipes x = Sentence.organ(items + "pass 3");
            x.fetch(0);
            Sentence.due("undo()", x.undo(), 3);
            Sentence.due("of(0, 2)", x.of(0, 2), 0);
            Sentence.due("of(0, 3)", x.of(0, 3), 2);
            Sentence.due("count(5)", x.count(5), 3);
        });
        Sentence.terms(12, "(8 at most;", () -> {
            for (int n : new int[] {7, 8, 9, 48}) {
                GonePipes x = Sentence.organ(items + "pass " + n);
                Sentence.due("behind " + n + " hours count(5)", x.count(5), Math.min(n, 8));
                for (int i = 1; i <= Math.min(n, 8); i++) {
                    Sentence.due("undo()", x.undo(), n - i);
                    Sentence.due("of(0, 3)", x.of(0, 3), Math.max(n - i - 1, 0));
                }
                Sentence.no(x, "undo()", x::undo);
            }
        });
        Sentence.terms(12, "PIPE fetched (8 at most;", () -> {
            GonePipes x = Sentence.organ(items + "pass 6");
            x.undo();
            x.undo();
            x.pass(3);
            x.fetch(0);
            x.pass(5);
            // hours 5 to 12, pipe 0 fetched at 7
            int[] hours = {11, 10, 9, 8, 7, 7, 6, 5};
            int[] away = {3, 2, 1, 0, 0, 6, 5, 4};
            for (int i = 0; i < 8; i++) {
                Sentence.due("undo()", x.undo(), hours[i]);
                Sentence.due("of(0, 3)", x.of(0, 3), away[i]);
            }
            Sentence.no(x, "undo()", x::undo);
        });
        Sentence.terms(12, "behind a PIPE or PLACE that comes none may be", () -> {
            GonePipes x = Sentence.organ(items + "pass 3");
            x.pipe(0, 1);
            Sentence.due("behind a PIPE count(5)", x.count(5), 0);
            Sentence.no(x, "undo()", x::undo);
            x.pass(1);
            Sentence.due("an hour later: undo()", x.undo(), 3);
            x.pass(2);
            x.place(1, 0, 0, 0, 0);
            Sentence.due("behind a PLACE count(5)", x.count(5), 0);
            Sentence.no(x, "undo()", x::undo);
        });
        Sentence.terms(12, "behind a PIPE or PLACE that comes", () -> {
            GonePipes x = Sentence.organ("place 0 0 24 0 0;place 0 0 0 0 0;place 0 0 0 0 0;place 0 0 0 0 0;place 0 0 0 0 0;"
                + "pipe 0 0;pipe 0 0;pipe 0 0;pipe 0 0;pipe 0 0;pipe 0 0;pipe 0 0;pipe 0 0;pass 3");
            Sentence.full(x, "a place that does not come", () -> x.place(0, 0, 0, 0, 0));
            Sentence.full(x, "a pipe that does not come", () -> x.pipe(0, 0));
            Sentence.bad(x, "a place that does not come", () -> x.place(12, 0, 0, 0, 0));
            Sentence.bad(x, "a pipe that does not come", () -> x.pipe(6, 0));
            x.note(0, 1);
            x.hush(0);
            x.reading(0, 0, 0, 0);
            x.forget();
            x.feast(0, 0, 0);
            x.image(0);
            x.type('o');
            x.read();
            x.clear();
            Sentence.due("count(5)", x.count(5), 3);
            Sentence.due("undo()", x.undo(), 2);
        });
    }

    private static void images() {
        Sentence.terms(31, "IMAGES 0, 1 keep all but them, THE TEXT, THE FRACTION and STATUS", () -> {
            GonePipes x = everything();
            x.image(0);
            long kept = x.digest();
            x.organ();
            Sentence.put(x, "place 9 9 9 9 9;place 8 8 8 8 8;place 7 7 7 7 7;place 6 6 6 6 6;pipe 5 5;pipe 0 9;pipe 0 8;pipe 4 4;"
                + "hymn 0 9 9 9;hymn 1 8 8;hymn 2 7;pass 48");
            x.reading(1, 1, 1, 0);
            x.reading(3, 3, 3, 0);
            x.from(0);
            Sentence.due("digest()", x.digest(), kept);
            x.type('a');
            x.feast(1, 0, 0);
            x.status(9);
            x.image(1);
            x.from(0);
            Sentence.due("THE TEXT stays: count(6)", x.count(6), 1);
            Sentence.due("THE FRACTION stays: part(0)", x.part(0), 1);
            Sentence.status(x, 1, 0, 0);
            Sentence.due("image 1 stays: from(1)", x.from(1), 1);
        });
        Sentence.terms(31, "what may be undone they keep", () -> {
            GonePipes x = Sentence.organ("place 0 0 24 0 0;pipe 0 0;pass 11");
            x.fetch(0);
            x.image(1);
            x.pass(48);
            x.pipe(0, 0);
            Sentence.due("count(5)", x.count(5), 0);
            x.from(1);
            Sentence.due("count(5)", x.count(5), 8);
            Sentence.due("undo()", x.undo(), 11);
            Sentence.due("of(0, 3)", x.of(0, 3), 10);
            for (int hour = 10; hour >= 4; hour--) {
                Sentence.due("undo()", x.undo(), hour);
            }
            Sentence.no(x, "undo()", x::undo);
            x.from(1);
            Sentence.due("it is kept still: count(5)", x.count(5), 8);
        });
        Sentence.terms(32, "it goes on from one", () -> {
            GonePipes x = Sentence.organ("pipe 0 0;pass 3");
            x.image(0);
            x.pass(4);
            x.image(1);
            x.from(0);
            Sentence.due("count(2)", x.count(2), 3);
            x.pass(1);
            Sentence.due("it goes on: count(2)", x.count(2), 4);
            x.from(0);
            Sentence.due("the image does not: count(2)", x.count(2), 3);
            x.from(1);
            Sentence.due("the other one: count(2)", x.count(2), 7);
            GonePipes y = new GonePipes();
            y.image(0);
            Sentence.put(y, "place 0 0 0 0 0;pipe 0 0;hymn 2 1;pass 1");
            long empty = new GonePipes().digest();
            Sentence.due("an image of nothing: from(0)", y.from(0), 1);
            Sentence.due("digest()", y.digest(), empty);
        });
    }

    private static void status() {
        Sentence.terms(33, "STATUS: how many calls were refused as BAD, NO, FULL (each answer told so below is such a one)", () -> {
            GonePipes x = new GonePipes();
            Sentence.status(x, 0, 0, 0);
            x.undo();
            Sentence.status(x, 0, 1, 0);
            x.pass(0);
            x.pass(49);
            Sentence.status(x, 2, 1, 0);
            for (int i = 0; i < 154; i++) {
                x.type(' ');
            }
            Sentence.status(x, 2, 1, 4);
            for (int i = 0; i < 300; i++) {
                x.best(3);
            }
            Sentence.status(x, 302, 1, 4);
        });
        Sentence.terms(33, "(where others are told they count as these)", () -> {
            GonePipes x = Sentence.organ("pipe 0 0");
            Sentence.badTen(x, "of(1, 0)", () -> x.of(1, 0));
            Sentence.badTen(x, "of(0, 5)", () -> x.of(0, 5));
            Sentence.badTen(x, "then(73, 0)", () -> x.then(73, 0));
            Sentence.badTen(x, "best(3)", () -> x.best(3));
            Sentence.badTen(x, "walk(2, 0)", () -> x.walk(2, 0));
            Sentence.due("status(3)", x.status(3), -1);
            Sentence.status(x, 6, 0, 0);
        });
        Sentence.terms(33, "each answer told so below is such a one", () -> {
            GonePipes x = Sentence.organ("hymn 0 5");
            Sentence.asks(x, "NONE is not: hours(0, 0)", () -> x.hours(0, 0), -1);
            Sentence.asks(x, "NONE is not: walk(0, 1)", () -> x.walk(0, 1), -1);
            Sentence.asks(x, "NONE is not: falls(1)", () -> x.falls(1), -1);
            Sentence.asks(x, "NONE is not: fetchAll(0)", () -> x.fetchAll(0), -1);
            Sentence.asks(x, "a FAULT is not: read()", x::read, -10);
            x.pipe(0, 0);
            Sentence.asks(x, "NONE is not: listen(0, 0)", () -> x.listen(0, 0), -1);
            Sentence.asks(x, "the church is not: then(0, 0)", () -> x.then(0, 0), -1);
            Sentence.asks(x, "the church is not: of(0, 2)", () -> x.of(0, 2), -1);
            x.note(1, 6);
            Sentence.asks(x, "a SHIFT is not: best(1)", () -> x.best(1), -6);
        });
    }

    private static void refusals() {
        Sentence.terms(3, "the first of: BAD -2 a number is not as told; NO -3 as told; FULL -4", () -> {
            GonePipes x = Sentence.organ("place 0 0 24 0 0;place 0 0 0 0 0;place 0 0 0 0 0;place 0 0 0 0 0;place 0 0 0 0 0;"
                + "pipe 0 0;pipe 0 0;pipe 0 0;pipe 0 0;pipe 0 0;pipe 0 0;pipe 0 0;pipe 0 0;hymn 0 1 2 3 4 5 6 7 8");
            for (int i = 0; i < 6; i++) {
                x.reading(0, 0, 0, 0);
            }
            Sentence.type(x, " ".repeat(150));
            Sentence.bad(x, "full, too: place", () -> x.place(0, 0, 0, 0, 31));
            Sentence.bad(x, "full, too: pipe", () -> x.pipe(0, 36));
            Sentence.bad(x, "full, too: note", () -> x.note(0, 36));
            Sentence.bad(x, "full, too: reading", () -> x.reading(8, 0, 0, 0));
            Sentence.bad(x, "full, too: type", () -> x.type(128));
            Sentence.bad(x, "none was kept, too: from", () -> x.from(2));
            Sentence.full(x, "place", () -> x.place(0, 0, 0, 0, 30));
            Sentence.full(x, "pipe", () -> x.pipe(0, 35));
            Sentence.full(x, "note", () -> x.note(0, 35));
            Sentence.full(x, "reading", () -> x.reading(7, 0, 0, 0));
            Sentence.full(x, "type", () -> x.type(127));
            Sentence.no(x, "from", () -> x.from(1));
        });
        Sentence.terms(29, "BAD -2 a number is not as told", () -> {
            GonePipes x = new GonePipes();
            Sentence.bad(x, "no PIPES, too: hours", () -> x.hours(1000000, 0));
            Sentence.bad(x, "no PIPES, too: hours", () -> x.hours(0, 61));
            x.pipe(0, 0);
            Sentence.bad(x, "no PLACES, too: listen", () -> x.listen(0, 73));
        });
        Sentence.terms(33, "Refused, changing nothing but STATUS", () -> {
            GonePipes x = everything();
            x.image(0);
            x.place(12, 0, 0, 0, 0);
            x.pipe(0, 99);
            x.note(0, 99);
            x.hush(9);
            x.type(-1);
            x.read();
            x.pass(99);
            x.fetch(99);
            Sentence.no(x, "fetch(3)", () -> x.fetch(3));
            x.reading(0, 0, 0, 9);
            x.feast(0, 0, 11);
            x.image(9);
            x.from(9);
            x.from(1);
            GonePipes y = everything();
            y.image(0);
            for (int i = 0; i < 9; i++) {
                Sentence.due("digest()", x.digest(), y.digest());
                Sentence.due("undo()", x.undo(), y.undo());
            }
            x.from(0);
            y.from(0);
            Sentence.due("from(0), digest()", x.digest(), y.digest());
        });
    }
}
