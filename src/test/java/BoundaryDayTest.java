/** The boundary cases that the document names for a new object, for what is told and for a day: promises 1 and 5 to 13. */
public final class BoundaryDayTest {
    private static final Check CHECK = new Check();
    private static final String A = "tune a 0;";

    private static String plain(String name, int shy, int stays, int comes) {
        return Check.who(name, "plain", "a", 1, shy, stays, comes);
    }

    /** Where each passer begins and ends, two numbers each. */
    private static void plays(String what, StationPiano x, int... times) {
        for (int p = 0; 2 * p < times.length; p++) {
            CHECK.due(what + ": begins(" + p + ")", x.begins(p), times[2 * p]);
            CHECK.due(what + ": ends(" + p + ")", x.ends(p), times[2 * p + 1]);
        }
        int away = 0;
        for (int p = 0; 2 * p < times.length; p++) {
            away |= times[2 * p] == -1 ? 1 << p : 0;
        }
        CHECK.due(what + ": away()", x.away(), away);
        for (int m = 0; m < 60; m++) {
            int want = -1;
            for (int p = 0; 2 * p < times.length; p++) {
                want = times[2 * p] != -1 && times[2 * p] <= m && m < times[2 * p + 1] ? p : want;
            }
            CHECK.due(what + ": now(" + m + ")", x.now(m), want);
        }
    }

    private static void newObject() {
        CHECK.of(1, "At first: nothing.");
        StationPiano x = new StationPiano();
        int[] counts = {0, 0, 5, 30, 0, 60, 60, 0, 0, 0, 0, 0, 0, 0};
        for (int i = 0; i < counts.length; i++) {
            CHECK.due("count(" + i + ")", x.count(i), counts[i]);
        }
        for (int i = 0; i < 12; i++) {
            CHECK.due("key(" + i + ")", x.key(i), 0);
            CHECK.due("lasts(" + i + ")", x.lasts(i), -1);
            CHECK.due("strikes(0, " + i + ")", x.strikes(0, i), -1);
        }
        plays("nobody", x);
        for (int i = 0; i < 7; i++) {
            int p = i;
            CHECK.due("passer", x.passer(p, 0), -1);
            CHECK.due("begins", x.begins(p), -1);
            CHECK.due("ends", x.ends(p), -1);
            CHECK.due("tune", x.tune(p, 0), -1);
            CHECK.due("share", x.share(p), -1);
            CHECK.none("without", () -> x.without(p));
        }
        CHECK.due("joy", x.joy(), 0);
        CHECK.due("undo", x.undo(), false);
        CHECK.due("no line", x.judged(0), -1);
        CHECK.due("no joy", x.judged(1), 0);
        CHECK.due("nothing paid", x.judged(2), 0);
        CHECK.due("the least each", x.best(0), 1);
        CHECK.due("its joy", x.best(1), 0);
        CHECK.due("hours", x.hours(1), 0);
        CHECK.due("when: none", x.when(9, 1), -1);
        CHECK.due("rarer", x.rarer(0), 0);
        CHECK.due("rarer than can be", x.rarer(1), -1);
        CHECK.due("dare", x.dare(0), 0);
        CHECK.due("the empty set", x.sets(0), 1);
        CHECK.due("in all", x.sets(1), 0);
        CHECK.due("in some", x.sets(2), 0);
        CHECK.due("look", x.look(), -1);
        CHECK.due("rule", x.rule(30, 30), 0);
        CHECK.due("months", x.months(9999, 60, 0) + x.months(0, 60, 1) + x.months(1, 60, 2), 0);
        for (int i = 0; i < 4; i++) {
            CHECK.due("mark", x.mark(i, true), false);
        }
    }

    private static void worksAsItIs() {
        CHECK.of(1, "Nothing.");
        StationPiano x = new StationPiano();
        CHECK.due("a day", x.day(), 0);
        CHECK.due("a tuning", x.mend(), 0);
        CHECK.due("sixty pounds", x.count(8), 60);
        CHECK.due("each", x.each(1), true);
        CHECK.due("open", x.open(5, 6), true);
        CHECK.due("undone", x.undo() && x.undo() && x.undo() && x.undo(), true);
        CHECK.due("no more", x.undo(), false);
        CHECK.due("find", x.find(11, 0), true);
        CHECK.due("nobody wore nothing", x.sets(0), 1);
        CHECK.due("find", x.find(11, 1), true);
        CHECK.due("nobody wore it", x.sets(0), 0);
        CHECK.due("a mark", x.mark(0, false), true);
        CHECK.due("a week", Check.planned(x, "mend;day;").judged(2), 60);
    }

    private static void passers() {
        CHECK.of(5, "0: KIND (0 plain, 1 finger, 2 drunk, 3 earner)");
        StationPiano x = Check.told("tune a 0;tune b 1;tune c 2;tune d 3;tune e 4;" + Check.who("p", "plain", "e", 0, 9, 1, 0)
                + Check.who("q", "finger", "a", 9, 0, 30, 59) + Check.who("r", "drunk", "b", 1, 1, 29, 1)
                + Check.who("s", "earner", "c", 2, 2, 30, 2) + "each 29;");
        int[][] want = {{0, 4, 0, 9, 1, 0}, {1, 0, 9, 0, 29, 59}, {2, 1, 1, 1, 29, 1}, {3, 2, 2, 2, 30, 2}};
        for (int p = 0; p < 4; p++) {
            for (int what = 0; what < 6; what++) {
                CHECK.due("passer(" + p + ", " + what + ")", x.passer(p, what), want[p][what]);
            }
        }
        CHECK.of(5, "NONE: others.");
        CHECK.due("what -1", x.passer(0, -1), -1);
        CHECK.due("what 6", x.passer(0, 6), -1);
        CHECK.due("passer -1", x.passer(-1, 0), -1);
        CHECK.due("passer 4 of four", x.passer(4, 0), -1);
        CHECK.due("passer 7", x.passer(7, 0), -1);
        for (int far : Check.FAR) {
            CHECK.due("passer " + far, x.passer(far, 0), -1);
            CHECK.due("what " + far, x.passer(0, far), -1);
        }
        CHECK.of(5, "4: minutes he plays at most now");
        int[][] least = {{1, 1, 1, 1, 30}, {28, 1, 28, 28, 30}, {29, 1, 29, 29, 30}, {30, 1, 30, 29, 30}};
        for (int[] row : least) {
            x.each(row[0]);
            for (int p = 0; p < 4; p++) {
                CHECK.due("by each " + row[0] + " passer " + p, x.passer(p, 4), row[p + 1]);
            }
        }
        x.undo();
        CHECK.due("undone", x.passer(1, 4), 29);
    }

    private static void lastPasser() {
        CHECK.of(5, "Of a PASSER, what 0: KIND");
        StringBuilder text = new StringBuilder(A);
        for (int p = 0; p < 7; p++) {
            text.append(plain("p" + (char) ('a' + p), p, 1, p));
        }
        StationPiano x = Check.told(text.toString());
        for (int p = 0; p < 7; p++) {
            CHECK.due("shyness of " + p + " as told", x.passer(p, 3), p);
        }
        CHECK.due("an eighth", x.passer(7, 3), -1);
        Check.feed(x, A + plain("p", 3, 1, 1));
        x.station();
        CHECK.due("the new one", x.passer(0, 3), 3);
        CHECK.due("an older one is none", x.passer(1, 3), -1);
    }

    private static void tunes() {
        CHECK.of(6, "The i-th KEY of a TUNE; NONE: others.");
        StationPiano x = Check.told("tune a 11 10 9 8 7 6 5 4 3;tune b 0;tune c 1;tune d 2;tune e 0 0 11;");
        for (int i = 0; i < 9; i++) {
            CHECK.due("key " + i + " of nine", x.tune(0, i), 11 - i);
        }
        CHECK.due("a tenth", x.tune(0, 9), -1);
        CHECK.due("ahead of the first", x.tune(0, -1), -1);
        CHECK.due("the one key", x.tune(1, 0), 0);
        CHECK.due("a second", x.tune(1, 1), -1);
        CHECK.due("the fifth tune", x.tune(4, 1), 0);
        CHECK.due("its last key", x.tune(4, 2), 11);
        CHECK.due("one behind it", x.tune(4, 3), -1);
        CHECK.due("a sixth tune", x.tune(5, 0), -1);
        CHECK.due("ahead of the first", x.tune(-1, 0), -1);
        for (int far : Check.FAR) {
            CHECK.due("tune " + far, x.tune(far, 0), -1);
            CHECK.due("key " + far, x.tune(0, far), -1);
        }
        Check.feed(x, "tune z 5;");
        x.station();
        CHECK.due("a new tune", x.tune(0, 0), 5);
        CHECK.due("an older key is none", x.tune(0, 1), -1);
        CHECK.due("an older tune is none", x.tune(1, 0), -1);
        Check.feed(x, "tune y 6;");
        x.station();
        CHECK.due("a third station's tune", x.tune(0, 0), 6);
        CHECK.due("a key of the first station", x.tune(0, 1), -1);
        CHECK.due("a tune of the first station", x.tune(1, 0), -1);
    }

    private static void keys() {
        CHECK.of(7, "WEAR of a KEY; NONE: others.");
        StationPiano x = Check.told("tune a 0 11 11;" + plain("p", 0, 1, 0));
        x.day();
        CHECK.due("the first", x.key(0), 1);
        CHECK.due("one that nobody strikes", x.key(1), 0);
        CHECK.due("the last, struck twice", x.key(11), 2);
        CHECK.due("-1", x.key(-1), -1);
        CHECK.due("12", x.key(12), -1);
        for (int far : Check.FAR) {
            CHECK.due("key " + far, x.key(far), -1);
        }
        CHECK.of(7, "A KEY (0 to 11) has a WEAR, 0 to 9; one of 9 is GONE.");
        for (int day = 2; day <= 12; day++) {
            x.day();
            CHECK.due("the first behind day " + day, x.key(0), Math.min(9, day));
            CHECK.due("the last behind day " + day, x.key(11), Math.min(9, 2 * day));
            CHECK.due("gone behind day " + day, x.count(9), (day >= 9 ? 1 : 0) + (day >= 5 ? 1 << 11 : 0));
        }
    }

    private static void minutes() {
        CHECK.of(8, "A DAY has the minutes 0 to 59.");
        plays("the first minute", Check.told(A + plain("p", 0, 1, 0)), 0, 1);
        plays("the last minute", Check.told(A + plain("p", 0, 1, 59)), 59, 60);
        CHECK.of(9, "At the minute 60 all is over.");
        plays("thirty minutes from 30", Check.told(A + plain("p", 0, 30, 30)), 30, 60);
        plays("thirty minutes from 31", Check.told(A + plain("p", 0, 30, 31)), 31, 60);
        plays("thirty minutes from 29", Check.told(A + plain("p", 0, 30, 29)), 29, 59);
        plays("an earner from 59", Check.told(A + Check.who("p", "earner", "a", 1, 0, 30, 59)), 59, 60);
        plays("nobody takes his turn at 60", Check.told(A + plain("p", 0, 30, 30) + plain("q", 0, 1, 59)), 30, 60, -1, -1);
    }

    private static void wrongOnes() {
        StationPiano x = Check.told(A + plain("p", 0, 30, 0) + plain("q", 0, 30, 1));
        CHECK.of(8, "BEGINS; NONE: others, he never plays.");
        CHECK.due("he plays", x.begins(0), 0);
        CHECK.due("he never plays", x.begins(1), -1);
        CHECK.due("passer 2 of two", x.begins(2), -1);
        CHECK.due("passer -1", x.begins(-1), -1);
        CHECK.due("passer 7", x.begins(7), -1);
        CHECK.of(9, "ENDS: the first minute in which he does not play any more; NONE: likewise.");
        CHECK.due("he plays", x.ends(0), 30);
        CHECK.due("he never plays", x.ends(1), -1);
        CHECK.due("passer 2 of two", x.ends(2), -1);
        CHECK.due("passer -1", x.ends(-1), -1);
        CHECK.due("passer 7", x.ends(7), -1);
        CHECK.of(10, "NOW of a minute; NONE: others, nobody.");
        CHECK.due("his first", x.now(0), 0);
        CHECK.due("his last", x.now(29), 0);
        CHECK.due("nobody", x.now(30), -1);
        CHECK.due("minute 59", x.now(59), -1);
        CHECK.due("minute 60", x.now(60), -1);
        CHECK.due("minute -1", x.now(-1), -1);
        StationPiano late = Check.told(A + plain("p", 0, 1, 59));
        CHECK.due("he plays in minute 59", late.now(59), 0);
        CHECK.due("not in minute 60", late.now(60), -1);
        for (int far : Check.FAR) {
            CHECK.due("now " + far, x.now(far), -1);
            CHECK.due("begins " + far, x.begins(far), -1);
            CHECK.due("ends " + far, x.ends(far), -1);
        }
    }

    private static void askedAlone() {
        String text = "tune a 0;" + plain("p", 0, 30, 0) + plain("q", 0, 30, 5);
        CHECK.of(8, "(All of the DAY that comes, as all is now.)");
        StationPiano x = Check.told(text);
        x.joy();
        x.open(3, 60);
        CHECK.due("begins, asked first", x.begins(0), 3);
        CHECK.of(9, "BEGINS, ENDS of a PASSER");
        x.each(2);
        CHECK.due("ends, asked first", x.ends(0), 5);
        CHECK.of(10, "NOW of a minute: who plays.");
        x.open(0, 60);
        CHECK.due("now, asked first", x.now(0), 0);
        CHECK.of(11, "AWAY: those who come and never play.");
        x.each(30);
        CHECK.due("away, asked first", x.away(), 2);
        CHECK.of(12, "JOY of the DAY.");
        x.open(0, 1);
        CHECK.due("joy, asked first", x.joy(), 0);
        x.day();
        CHECK.due("joy, the next day", x.joy(), -1);
        CHECK.due("joy, asked again", x.joy(), -1);
    }

    private static void lineOrder() {
        CHECK.of(8, "those who come then stand in the LINE behind those who are there, by numbers");
        plays("by numbers", Check.told(A + plain("p", 0, 2, 5) + plain("q", 0, 2, 5) + plain("r", 0, 2, 5)), 5, 7, 7, 9, 9, 11);
        plays("who came first is ahead", Check.told(A + plain("p", 0, 2, 6) + plain("q", 0, 2, 5) + plain("r", 0, 2, 6) + "open 7 to 60;"),
                9, 11, 7, 9, 11, 13);
        StringBuilder seven = new StringBuilder(A);
        int[] times = new int[14];
        for (int p = 0; p < 7; p++) {
            seven.append(plain("p" + (char) ('a' + p), p == 0 ? 5 : 0, 1, 0));
        }
        /* The first dares before four others at most: two go ahead of him, the others behind. */
        int[] turns = {2, 0, 1, 3, 4, 5, 6};
        for (int p = 0; p < 7; p++) {
            times[2 * p] = turns[p];
            times[2 * p + 1] = turns[p] + 1;
        }
        plays("seven at once", Check.told(seven + "waits 6;"), times);
        CHECK.of(9, "who plays and has played his minutes, or plays when it is not open, ends and goes");
        plays("one minute each", Check.told(A + plain("p", 0, 30, 0) + plain("q", 0, 30, 0) + "each 1;"), 0, 1, 1, 2);
        plays("no more than he stays", Check.told(A + plain("p", 0, 3, 0) + "each 4;"), 0, 3);
        plays("just as long", Check.told(A + plain("p", 0, 4, 0) + "each 4;"), 0, 4);
        plays("no more than each", Check.told(A + plain("p", 0, 5, 0) + "each 4;"), 0, 4);
        plays("an earner as many as he stays", Check.told(A + Check.who("p", "earner", "a", 1, 0, 30, 0) + "each 1;"), 0, 30);
        plays("closed in his last minute but one", Check.told(A + plain("p", 0, 5, 0) + "open 0 to 4;"), 0, 4);
        plays("closed when he ends", Check.told(A + plain("p", 0, 5, 0) + "open 0 to 5;"), 0, 5);
        plays("an earner too", Check.told(A + Check.who("p", "earner", "a", 1, 0, 30, 0) + "open 0 to 1;"), 0, 1);
        plays("a drunk too", Check.told(A + Check.who("p", "drunk", "a", 1, 0, 30, 0) + "open 0 to 1;"), 0, 1);
        CHECK.of(8, "if nobody plays and it is open");
        plays("ahead of the opening", Check.told(A + plain("p", 0, 1, 9) + "open 10 to 11;waits 0;"), -1, -1);
        plays("when it opens", Check.told(A + plain("p", 0, 1, 10) + "open 10 to 11;waits 0;"), 10, 11);
        plays("when it closes", Check.told(A + plain("p", 0, 1, 11) + "open 10 to 11;waits 0;"), -1, -1);
        plays("the last open minute", Check.told(A + plain("p", 0, 9, 19) + "open 10 to 20;waits 0;"), 19, 20);
        plays("open in the last minute alone", Check.told(A + plain("p", 0, 9, 58) + "open 59 to 60;waits 1;"), 59, 60);
    }

    private static void waiting() {
        CHECK.of(8, "who has stood in the LINE for more minutes than waits goes");
        for (int waits : new int[] {0, 1, 5, 29, 30, 58, 59}) {
            String text = A + plain("p", 0, 1, 0) + "waits " + waits + ";open ";
            plays("stood as long as he waits", Check.told(text + waits + " to 60;"), waits, waits + 1);
            if (waits < 59) {
                plays("stood a minute more", Check.told(text + (waits + 1) + " to 60;"), -1, -1);
            }
        }
        for (int waits = 0; waits < 7; waits++) {
            int turn = waits < 5 ? -1 : 5;
            plays("behind one who plays five minutes", Check.told(A + plain("p", 0, 5, 0) + plain("q", 0, 1, 0) + "waits " + waits + ";"),
                    0, 5, turn, turn < 0 ? -1 : 6);
        }
        plays("five untold", Check.told(A + plain("p", 0, 5, 0) + plain("q", 0, 1, 0)), 0, 5, 5, 6);
        plays("six are too many", Check.told(A + plain("p", 0, 6, 0) + plain("q", 0, 1, 0)), 0, 6, -1, -1);
        CHECK.of(11, "AWAY: those who come and never play.");
        StringBuilder seven = new StringBuilder(A);
        for (int p = 0; p < 7; p++) {
            seven.append(plain("p" + (char) ('a' + p), 0, 1, p));
        }
        StationPiano x = Check.told(seven.toString());
        CHECK.due("none", x.away(), 0);
        x.open(59, 60);
        CHECK.due("all seven", x.away(), 127);
        x.open(6, 7);
        CHECK.due("all but him who has stood five minutes", x.away(), 127 - 2);
        CHECK.of(11, "AWAY, as bits.");
        x.open(0, 1);
        CHECK.due("all but the first", x.away(), 126);
    }

    private static String crowd(int many, int shyOfFirst, String kindOfFirst) {
        StringBuilder text = new StringBuilder(A + Check.who("p", kindOfFirst, "a", 1, shyOfFirst, 1, 0));
        for (int i = 1; i < many; i++) {
            text.append(plain("p" + (char) ('a' + i), 9, 1, 0));
        }
        return text + "waits 0;";
    }

    private static void daring() {
        CHECK.of(8, "DARES: his shyness and how many others stand in the LINE are 9 together, or less; a drunk always.");
        for (int many = 1; many <= 7; many++) {
            int shy = 9 - (many - 1);
            CHECK.due(many + " in the line, nine together", Check.told(crowd(many, shy, "plain")).begins(0), 0);
            if (shy < 9) {
                CHECK.due(many + " in the line, ten together", Check.told(crowd(many, shy + 1, "plain")).begins(0), -1);
                CHECK.due("an earner", Check.told(crowd(many, shy + 1, "earner")).begins(0), -1);
                CHECK.due("a finger", Check.told(crowd(many, shy + 1, "finger")).begins(0), -1);
            }
            CHECK.due("a drunk", Check.told(crowd(many, 9, "drunk")).begins(0), 0);
        }
        CHECK.of(8, "the first in the LINE who DARES begins: he is out of the LINE");
        plays("the second dares", Check.told(A + plain("p", 8, 1, 0) + plain("q", 7, 1, 0) + plain("r", 0, 1, 0)), 1, 2, 0, 1, 2, 3);
        plays("the first dares", Check.told(A + plain("p", 7, 1, 0) + plain("q", 7, 1, 0) + plain("r", 0, 1, 0)), 0, 1, 1, 2, 2, 3);
        plays("nobody dares", Check.told(A + plain("p", 9, 1, 0) + plain("q", 9, 1, 0)), -1, -1, -1, -1);
        plays("who plays is none of the others", Check.told(A + plain("p", 0, 3, 0) + plain("q", 9, 1, 1)), 0, 3, 3, 4);
        plays("who comes in that minute is one", Check.told(A + plain("p", 0, 3, 0) + plain("q", 9, 1, 1) + plain("r", 0, 1, 3)),
                0, 3, 4, 5, 3, 4);
        plays("who goes in that minute is none", Check.told(A + plain("p", 9, 1, 0) + plain("q", 9, 1, 1) + "waits 3;open 4 to 60;"), -1, -1, 4, 5);
        plays("the later one waits until the first has gone", Check.told(A + plain("p", 9, 1, 0) + plain("q", 9, 1, 0) + plain("r", 9, 1, 5)),
                -1, -1, -1, -1, 6, 7);
    }

    private static int joyBy(String law, String passers) {
        return Check.told("tune a 0;tune b 0 1 2 3;" + passers + "joys " + law + ";").joy();
    }

    private static void joys() {
        CHECK.of(12, "if somebody plays the E of joys (-99 to 99) by how all is then, is added");
        String one = plain("p", 0, 1, 0);
        int[] values = {0, 1, 98, 99, 100, 9999};
        for (int value : values) {
            CHECK.due("joys " + value, joyBy("" + value, one), Math.min(99, value));
            CHECK.due("joys 0-" + value, joyBy("0-" + value, one), Math.max(-99, -value));
        }
        String full = plain("p", 0, 30, 0) + plain("q", 0, 30, 30);
        CHECK.due("all sixty minutes", joyBy("99", full), 5940);
        CHECK.due("all sixty minutes, the least", joyBy("0-99", full), -5940);
        CHECK.due("one minute of the last", joyBy("7", plain("p", 0, 30, 59)), 7);
        CHECK.due("nobody plays", Check.told(A + one + "open 1 to 60;waits 0;joys 7;").joy(), 0);
        CHECK.of(12, "what is not 0 is so; ints wrap");
        CHECK.due("2^31 - 1 + 1", joyBy("4096*4096*128-1+1", one), -99);
        CHECK.due("2^32", joyBy("4096*4096*256+5", one), 5);
        CHECK.due("-2^31 - 1", joyBy("0-4096*4096*128-1", one), 99);
        CHECK.due("-2 is so", joyBy("not (0-2)", one), 0);
        CHECK.due("-2 and 3", joyBy("(0-2) and 3", one), 1);
        CHECK.due("0 or -2", joyBy("0 or 0-2", one), 1);
        CHECK.due("0 or 0", joyBy("0 or 0", one), 0);
        CHECK.due("2 and 0", joyBy("2 and 0", one), 0);
        CHECK.due("0 and 2", joyBy("0 and 2", one), 0);
        CHECK.due("0 and 1", joyBy("0 and 1", one), 0);
        CHECK.due("1 and 1", joyBy("1 and 1", one), 1);
        CHECK.due("1 and 0", joyBy("1 and 0", one), 0);
        CHECK.due("2 or 0", joyBy("2 or 0", one), 1);
        CHECK.due("1 or 1", joyBy("1 or 1", one), 1);
        CHECK.due("not 0", joyBy("not 0", one), 1);
        CHECK.due("-1 < 0", joyBy("0-1<0", one), 1);
        CHECK.due("0 < 0", joyBy("0<0", one), 0);
        CHECK.due("0 = 0", joyBy("0=0", one), 1);
        CHECK.due("1 < 0", joyBy("1<0", one), 0);
        CHECK.of(12, "E: TEST { and TEST or or TEST }, from the left");
        CHECK.due("(1 or 1) and 0", joyBy("1 or 1 and 0", one), 0);
        CHECK.due("(0 and 0) or 1", joyBy("0 and 0 or 1", one), 1);
        CHECK.due("(5 - 3) - 1", joyBy("5-3-1", one), 1);
        CHECK.due("(5 - 3) + 1", joyBy("5-3+1", one), 3);
        CHECK.due("not binds a part alone", joyBy("not 0*5+1", one), 6);
    }

    private static void facts() {
        CHECK.of(12, "able (the PASSER's skill)");
        CHECK.due("skill 0", joyBy("able", Check.who("p", "plain", "a", 0, 0, 1, 0)), 0);
        CHECK.due("skill 9", joyBy("able", Check.who("p", "plain", "a", 9, 0, 1, 0)), 9);
        CHECK.of(12, "worn (the WEAR of all KEYS that he strikes, together, as often as he strikes each)");
        CHECK.due("four keys", joyBy("worn", Check.who("p", "plain", "b", 0, 0, 1, 0)), 4);
        CHECK.due("a finger's three", joyBy("worn", Check.who("p", "finger", "b", 0, 0, 1, 0)), 3);
        CHECK.due("a finger's one", joyBy("worn", Check.who("p", "finger", "a", 0, 0, 1, 0)), 1);
        CHECK.due("a drunk's two, twice", joyBy("worn", Check.who("p", "drunk", "a", 0, 0, 1, 0)), 4);
        CHECK.due("gone keys count nine, eighteen times: above 99", joyBy("worn", "tune c 0 0 0 0 0 0 0 0 0;"
                + Check.who("p", "drunk", "c", 0, 0, 1, 0)), 99);
        CHECK.due("the same, less 100", joyBy("worn-100", "tune c 0 0 0 0 0 0 0 0 0;" + Check.who("p", "drunk", "c", 0, 0, 1, 0)), 62);
        CHECK.of(12, "others (how many wait then)");
        CHECK.due("0, 1, 2, then 1, then 0", joyBy("others", plain("p", 0, 3, 0) + plain("q", 0, 1, 1) + plain("r", 0, 1, 2)), 4);
        CHECK.due("one goes at last", Check.told(A + plain("p", 0, 5, 0) + plain("q", 0, 1, 1) + "waits 1;joys others;").joy(), 2);
        CHECK.due("nobody", joyBy("others", plain("p", 0, 30, 0)), 0);
        CHECK.of(12, "same (how often his TUNE was begun ahead on that day)");
        CHECK.due("none, then one, three minutes", joyBy("same", plain("p", 0, 2, 0) + plain("q", 0, 3, 0)), 3);
        CHECK.due("another tune is another", joyBy("same", plain("p", 0, 2, 0) + Check.who("q", "plain", "b", 0, 0, 3, 0)), 0);
        StationPiano x = Check.told(A + plain("p", 0, 1, 0) + plain("q", 0, 1, 0) + "joys same;");
        CHECK.due("a day", x.day(), 1);
        CHECK.due("the next begins at none", x.day(), 1);
        CHECK.of(12, "Without joys: able - worn - same; without wears: 1.");
        CHECK.due("1 - 1, then 1 - 2 - 1", Check.told(A + plain("p", 0, 1, 0) + plain("q", 0, 1, 0)).joy(), -2);
    }

    private static int wearBy(String law, int keys) {
        StationPiano x = Check.told("tune a" + " 0".repeat(keys) + ";" + Check.who("p", "plain", "a", 3, 0, 8, 0) + "each 4;wears " + law + ";");
        x.day();
        return x.key(0);
    }

    private static void days() {
        CHECK.of(13, "wear by the E of wears (0 to 9; 9 at most)");
        CHECK.due("0", wearBy("0", 1), 0);
        CHECK.due("below 0", wearBy("0-1", 1), 0);
        CHECK.due("far below 0", wearBy("0-9999*9999", 1), 0);
        CHECK.due("8", wearBy("8", 1), 8);
        CHECK.due("9", wearBy("9", 1), 9);
        CHECK.due("10", wearBy("10", 1), 9);
        CHECK.due("8 strikes of 1", wearBy("1", 8), 8);
        CHECK.due("9 strikes of 1", wearBy("1", 9), 9);
        CHECK.due("2 strikes of 5", wearBy("5", 2), 9);
        CHECK.due("used at first 0, then 1", wearBy("not used", 2), 1);
        CHECK.due("used 0, 1, 2, 4, 8", wearBy("used+(used=0)", 4), 8);
        CHECK.due("long by each", wearBy("long", 1), 4);
        CHECK.due("able", wearBy("able", 1), 3);
        CHECK.due("less than no wear undoes none", wearBy("2-5*(0<used)", 2), 2);
        CHECK.of(13, "a finger only the first three; a drunk the whole row, then once more");
        StationPiano x = Check.told("tune a 5 6 7 8;" + Check.who("p", "finger", "a", 0, 0, 1, 0) + Check.who("q", "drunk", "a", 0, 0, 1, 9));
        x.day();
        int[] wear = {3, 3, 3, 2};
        for (int i = 0; i < 4; i++) {
            CHECK.due("key " + (5 + i), x.key(5 + i), wear[i]);
        }
        StationPiano nine = Check.told("tune a 0 1 2 3 4 5 6 7 11;" + Check.who("p", "drunk", "a", 0, 0, 1, 0));
        nine.day();
        CHECK.due("a drunk's first of nine keys", nine.key(0), 2);
        CHECK.due("his second", nine.key(1), 2);
        CHECK.due("his last", nine.key(11), 2);
        CHECK.of(13, "DAY: it passes; the KEYS stay as they are worn.");
        CHECK.due("the day", x.count(7), 1);
        CHECK.due("as foretold", x.joy(), x.day());
        CHECK.due("another", x.count(7), 2);
        CHECK.due("twice as much", x.key(8), 4);
        CHECK.due("nothing is paid", x.count(8), 0);
        CHECK.of(13, "DAY: its JOY.");
        StationPiano shut = Check.told(A + plain("p", 0, 1, 0) + "joys 7;open 1 to 2;waits 0;");
        CHECK.due("nobody plays", shut.day(), 0);
        CHECK.due("nothing is worn", shut.key(0), 0);
        CHECK.due("a day all the same", shut.count(7), 1);
    }

    public static void main(String[] args) {
        newObject();
        worksAsItIs();
        passers();
        lastPasser();
        tunes();
        keys();
        minutes();
        wrongOnes();
        askedAlone();
        lineOrder();
        waiting();
        daring();
        joys();
        facts();
        days();
        CHECK.namesAll(1, 1);
        CHECK.namesAll(5, 13);
        CHECK.end("BoundaryDayTest");
    }
}
