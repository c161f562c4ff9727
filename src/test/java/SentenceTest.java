/** Most of the sentences that stand in no Boundary test, each with answers worked out by hand. */
public final class SentenceTest {
    private static final Check CHECK = new Check();
    private static final String SIX_TUNES = "tune a 0;tune b 1;tune c 2;tune d 3;tune e 4;tune f 5;";
    private static final String WAITER = "tune a 0 1 2;passer p plain plays a skill 7 shy 0 stays 5 comes 0;";

    private static void fault(String text, int kind, int place) {
        StationPiano x = new StationPiano();
        Check.feed(x, text);
        CHECK.due("station of " + text, x.station(), kind + 16 * place);
        CHECK.due("signs left of " + text, x.count(13), 0);
    }

    private static void theTapeIsTaken() {
        CHECK.of(3, "what reads it takes it: it is empty then.");
        StationPiano x = new StationPiano();
        Check.feed(x, "price 7;");
        CHECK.due("signs ahead", x.count(13), 8);
        CHECK.due("station", x.station(), 0);
        CHECK.due("signs behind", x.count(13), 0);
        Check.feed(x, "price 8; 9");
        CHECK.due("station with a fault", x.station(), 1 + 16 * 9);
        CHECK.due("signs behind a fault", x.count(13), 0);
        CHECK.due("an empty tape is a station without anything", x.station(), 0);
        CHECK.due("its price", x.count(6), 60);
        CHECK.of(4, "what reads it takes it: it is empty then.");
        Check.feed(x, "day;mend;");
        CHECK.due("week", x.week(), 0);
        CHECK.due("signs behind a week", x.count(13), 0);
        Check.feed(x, "dawn;");
        CHECK.due("week with a fault", x.week(), 1);
        CHECK.due("signs behind a week's fault", x.count(13), 0);
        CHECK.due("all stays", x.count(10), 2);
    }

    private static void allIsTold() {
        CHECK.of(3, "waits N ; each N ; open N to N ; price N ; joys E ; wears E ;");
        StationPiano x = Check.told("wears 2;joys 3;price 4;open 5 to 6;each 7;waits 8;");
        int[] told = {0, 0, 8, 7, 5, 6, 4};
        for (int what = 0; what < told.length; what++) {
            CHECK.due("count " + what, x.count(what), told[what]);
        }
        CHECK.of(3, "passer: 7 at most, numbered as told");
        x = Check.told("tune b 4 3;" + Check.who("z", "drunk", "b", 1, 2, 3, 4) + "tune a 11;" + Check.who("y", "earner", "a", 9, 8, 7, 6));
        int[][] rows = {{2, 0, 1, 2, 3, 4}, {3, 1, 9, 8, 7, 6}};
        for (int p = 0; p < 2; p++) {
            CHECK.of(5, "1: his TUNE, 2: skill, 3: shyness,");
            for (int what = 0; what < 6; what++) {
                CHECK.due("passer " + p + " " + what, x.passer(p, what), rows[p][what]);
            }
        }
        CHECK.of(6, "tune: 5 at most, numbered as told");
        CHECK.due("tune 0 1", x.tune(0, 1), 3);
        CHECK.due("tune 1 0", x.tune(1, 0), 11);
    }

    private static void faultsOneToThree() {
        CHECK.of(3, "1 it is none, or can't stand there");
        fault("price 7; !", 1, 9);
        fault("price 7; Tune a 1;", 1, 9);
        fault("price 12345;", 1, 6);
        fault("tune ninechars 1;", 1, 5);
        fault("day;", 1, 0);
        fault("tune a 1;joys 1 2;", 1, 16);
        fault("joys used;", 1, 5);
        fault("wears worn;", 1, 6);
        CHECK.of(3, "2 a NAME of no TUNE (behind plays) told");
        fault("tune a 1;passer p plain plays b skill 1 shy 1 stays 1 comes 1;", 2, 30);
        fault("tune a 1;passer p plain plays p skill 1 shy 1 stays 1 comes 1;", 2, 30);
        fault("passer p plain plays q", 2, 21);
        CHECK.of(3, "3 a NAME told already");
        fault("tune a 1;tune a 2;", 3, 14);
        fault(WAITER + WAITER.substring(13), 3, WAITER.length() + 7);
        CHECK.of(3, "waits, each, open, price, joys, wears of a STATION a second time");
        for (String line : new String[] {"waits 3;", "each 4;", "open 1 to 2;", "price 9;", "joys 1;", "wears 1;"}) {
            fault(line + line, 3, line.length());
        }
        CHECK.of(4, "waits, each, open, price, joys, wears of a STATION a second time");
        StationPiano x = Check.planned(new StationPiano(), "each 3;each 3;open 1 to 2;open 1 to 2;");
        CHECK.due("a week's lines may come again", x.count(10), 4);
    }

    private static void faultsFourAndFive() {
        CHECK.of(3, "4 a NUMBER that is not as told");
        fault("tune a 12;", 4, 7);
        fault("waits 60;", 4, 6);
        fault("each 0;", 4, 5);
        fault("open 7 to 7;", 4, 10);
        fault("price 1000;", 4, 6);
        fault("tune a 1;passer p plain plays a skill 10 ", 4, 38);
        CHECK.of(3, "5 one too many: the words tune of a sixth, passer of an eighth, a tenth KEY of a tune,");
        fault(SIX_TUNES, 5, 45);
        StringBuilder eight = new StringBuilder("tune a 0;");
        for (char name = 'b'; name < 'i'; name++) {
            eight.append(Check.who(Character.toString(name), "plain", "a", 0, 0, 1, 0));
        }
        fault(eight + "passer", 5, eight.length());
        fault("tune a 1 2 3 4 5 6 7 8 9 10;", 5, 25);
        fault("joys not(not(not 1));", 5, 17);
        CHECK.of(4, "the first word of a 41st line of a WEEK");
        StationPiano x = new StationPiano();
        Check.feed(x, "day;".repeat(40) + " mend;");
        CHECK.due("a 41st line", x.week(), 5 + 16 * 161);
        Check.feed(x, "day;".repeat(40));
        CHECK.due("a 40th line", x.week(), 0);
    }

    /** The joy of a day on which one plays for one minute is what the law comes to. */
    private static void joyOf(String law, int value) {
        StationPiano x = Check.told("tune a 3;passer p plain plays a skill 4 shy 0 stays 1 comes 9;joys " + law + ";");
        CHECK.due("joys " + law, x.joy(), value);
    }

    private static void laws() {
        CHECK.of(12, "Of not, and, or, < and = comes 1 or 0");
        joyOf("not 7", 0);
        joyOf("not 0", 1);
        joyOf("5 and 3", 1);
        joyOf("5 and 0", 0);
        joyOf("0 or 4", 1);
        joyOf("2 < 3", 1);
        joyOf("3 < 3", 0);
        joyOf("4 = able", 1);
        joyOf("4 = 5", 0);
        joyOf("not 0 * 5 + 2 * 3", 11);
        joyOf("1 or 1 and 0", 0);
        CHECK.of(13, "used (the KEY's WEAR), long (how many minutes he plays at most)");
        StationPiano x = Check.told("tune a 3;passer p plain plays a skill 4 shy 0 stays 5 comes 9;wears used + 1;");
        for (int wear : new int[] {1, 3, 7, 9, 9}) {
            x.day();
            CHECK.due("wear of used + 1", x.key(3), wear);
        }
        x = Check.told("tune a 3;each 4;passer p plain plays a skill 4 shy 0 stays 5 comes 9;wears long;");
        x.day();
        CHECK.due("wear of long", x.key(3), 4);
        x = Check.told("tune a 3;each 4;passer p earner plays a skill 4 shy 0 stays 5 comes 9;wears long;");
        x.day();
        CHECK.due("wear of an earner's long", x.key(3), 5);
    }

    private static void playing() {
        CHECK.of(9, "He plays as many minutes as he stays, no more than each (an earner as many as he stays).");
        for (int kind = 0; kind < 4; kind++) {
            String name = new String[] {"plain", "finger", "drunk", "earner"}[kind];
            StationPiano x = Check.told("tune a 0;each 6;" + Check.who("p", name, "a", 1, 0, 9, 10));
            CHECK.due("ends of one who stays longer, " + name, x.ends(0), kind == 3 ? 19 : 16);
            x.each(9);
            CHECK.due("ends of one who stays as long, " + name, x.ends(0), 19);
            x.each(20);
            CHECK.due("ends of one who stays less, " + name, x.ends(0), 19);
        }
        CHECK.of(26, "STRIKES of a PASSER a KEY, how often.");
        String tune = "tune a 5 5 7 5 0;";
        int[][] times = {{3, 1, 1}, {2, 1, 0}, {6, 2, 2}, {3, 1, 1}};
        for (int kind = 0; kind < 4; kind++) {
            StationPiano x = Check.told(tune + Check.who("p", new String[] {"plain", "finger", "drunk", "earner"}[kind], "a", 1, 0, 9, 10));
            CHECK.due("strikes 5 of kind " + kind, x.strikes(0, 5), times[kind][0]);
            CHECK.due("strikes 7 of kind " + kind, x.strikes(0, 7), times[kind][1]);
            CHECK.due("strikes 0 of kind " + kind, x.strikes(0, 0), times[kind][2]);
            CHECK.due("strikes 6 of kind " + kind, x.strikes(0, 6), 0);
        }
    }

    private static void byHand() {
        CHECK.of(15, "EACH, OPEN are set.");
        StationPiano x = Check.told(WAITER + "each 9;open 3 to 30;");
        x.each(4);
        CHECK.due("each now", x.count(3), 4);
        CHECK.of(16, "EACH, OPEN are set.");
        x.open(2, 50);
        CHECK.due("open from now", x.count(4), 2);
        CHECK.due("open to now", x.count(5), 50);
        CHECK.of(18, "JOY of all its days; paid at last.");
        /* Three keys worn by 1 on each day: 7 - 3 on the first one, for 5 minutes, then 7 - 6, then mended 7 - 3 for 2. */
        x = Check.planned(Check.told(WAITER + "price 8;"), "day;day;mend;each 2;day;mend;");
        CHECK.due("line", x.judged(0), StationPiano.NONE);
        CHECK.due("joy", x.judged(1), 20 + 5 + 8);
        CHECK.due("paid", x.judged(2), 16);
        CHECK.due("nothing is done by it", x.count(7) + x.count(8) + x.key(0), 0);
        CHECK.of(28, "SETS of PASSERS by which all FOUND is so");
        x = Check.told("tune a 0;tune b 0 1;" + Check.who("p", "plain", "a", 1, 0, 1, 0) + Check.who("q", "plain", "b", 1, 0, 1, 0)
            + Check.who("r", "drunk", "a", 1, 0, 1, 0));
        x.find(0, 2);
        CHECK.due("p with q, or r", x.sets(0), 2);
        CHECK.due("in all", x.sets(1), 0);
        CHECK.due("in some", x.sets(2), 7);
        CHECK.due("key 1 parts them", x.look(), 1);
        x.find(1, 1);
        CHECK.due("p with q", x.sets(0), 1);
        CHECK.due("in all now", x.sets(1), 3);
        CHECK.due("in some now", x.sets(2), 3);
    }

    private static void rest(int loses, int ahead, int lets, int... rests) {
        StationPiano x = new StationPiano();
        String call = "rests " + loses + " " + ahead + " " + lets;
        CHECK.due(call, x.rests(loses, ahead, lets, StationPiano.NONE), rests.length);
        for (int i = 0; i < rests.length; i++) {
            CHECK.due(call + " " + i, x.rests(loses, ahead, lets, i), rests[i]);
        }
        CHECK.none(call + " " + rests.length, () -> x.rests(loses, ahead, lets, rests.length));
    }

    private static void waitingAtRest() {
        CHECK.of(31, "RESTS: by which neither would get more by the other.");
        rest(3, 5, 2, 1, 2);
        rest(0, 0, 0, 0, 1, 2, 3);
        rest(0, 5, 0, 1, 2, 3);
        rest(9, 0, 5, 0, 1, 2);
        rest(1, 0, 0, 0, 1, 2);
        rest(0, 1, 1, 1, 2);
    }

    /* The seed 1 draws 16838, 5758, 10113, 17515, ..: below 60 they are 38, 58, 33, 55. */
    private static void draws() {
        CHECK.of(33, "g becomes (g * 1103515245 + 12345) modulo 2147483648 (g is the SEED at first); it is g / 65536, cut, modulo m.");
        StationPiano x = Check.told("waits 0;tune a 0;passer p plain plays a skill 3 shy 0 stays 1 comes 20;wears 0;");
        x.open(38, 39);
        CHECK.due("he comes at 38", x.months(1, 1, 1), 1);
        CHECK.due("and not at 20, nor at 38 again", x.months(1, 4, 1), 1);
        x.open(39, 60);
        CHECK.due("not behind 38", x.months(1, 1, 1), 0);
        CHECK.due("but at 58 and 55 later", x.months(1, 4, 1), 2);
        x.open(0, 38);
        CHECK.due("nor ahead of it", x.months(1, 1, 1), 0);
        CHECK.due("but at 33 later", x.months(1, 4, 1), 1);
        x.open(0, 1);
        CHECK.due("the seed 0 draws 0", x.months(0, 1, 1), 1);
        x.open(0, 60);
        CHECK.of(33, "JOY of all; how often somebody played; paid by these.");
        CHECK.due("joy", x.months(1, 4, 0), 12);
        CHECK.due("how often", x.months(1, 4, 1), 4);
        CHECK.due("paid", x.months(1, 4, 2), 0);
    }

    /* The seed 8 draws 3634, 26864, 10994, 18073: below 4 the second is 0, the fourth 1; below 60 they are 34, 44, 14, 13. */
    private static void drawsOfMending() {
        CHECK.of(33, "then, if 3 KEYS or more are GONE or worn above 5, a DRAW below 4: 0: MEND");
        String lines = "passer p plain plays a skill 3 shy 0 stays 1 comes 20;price 9;wears ";
        StationPiano x = Check.told("tune a 0 1 2;" + lines + "6;");
        CHECK.due("mended", x.months(8, 1, 2), 9);
        CHECK.due("3 - 18, mended, 3 - 18", x.months(8, 2, 0), -30);
        CHECK.due("mended once", x.months(8, 2, 2), 9);
        CHECK.due("2 is drawn", x.months(1, 1, 2), 0);
        CHECK.due("3 - 18, not mended, 3 - 27", x.months(1, 2, 0), -39);
        x.mend();
        CHECK.due("what was paid ahead is not counted", x.months(8, 1, 2), 9);
        x = Check.told("tune a 0 1 2;" + lines + "5;");
        CHECK.due("worn by 5: nothing is drawn", x.months(8, 1, 2), 0);
        x = Check.told("tune a 0 1;" + lines + "6;");
        CHECK.due("two keys: nothing is drawn", x.months(8, 1, 2), 0);
        x.open(44, 45);
        CHECK.due("so that the second draw is a coming", x.months(8, 2, 1), 1);
        x = Check.told("tune a 0 1 2;" + lines + "9;");
        CHECK.due("gone keys: paid for nothing", x.months(8, 1, 2), 9);
        CHECK.due("3 - 27 on each day", x.months(8, 2, 0), -48);
    }

    private static void counts() {
        CHECK.of(35, "10: lines of the WEEK, 11: FOUND, 12: what can be undone, 13: signs on the TAPE.");
        StationPiano x = Check.planned(Check.told(WAITER + "wears 9;price 5;"), "day;day;");
        x.day();
        x.mend();
        x.mend();
        x.find(0, 9);
        Check.feed(x, "abc");
        int[] all = {1, 1, 5, 30, 0, 60, 5, 1, 10, 7, 2, 1, 3, 3};
        for (int what = 0; what < all.length; what++) {
            CHECK.due("count " + what, x.count(what), all[what]);
        }
    }

    public static void main(String[] args) {
        theTapeIsTaken();
        allIsTold();
        faultsOneToThree();
        faultsFourAndFive();
        laws();
        playing();
        byHand();
        waitingAtRest();
        draws();
        drawsOfMending();
        counts();
        CHECK.end("SentenceTest");
    }
}
