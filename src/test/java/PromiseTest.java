/** Each promise from 1 and 5 on by hand: ordinary inputs, the edges and wrong ones. */
public final class PromiseTest {
    private static final Check CHECK = new Check();
    private static final int[] OUTSIDE = {-1, -2, Integer.MIN_VALUE, Integer.MAX_VALUE};
    /*
     * The day of this station, by hand. Minute 0: x begins, keys 0 to 3 have 1 each, 9 - 4 a minute, five minutes: 25.
     * Minute 5: y has stood there for four minutes and begins, keys 0 to 2 have 2, 1 - 6 - 1 for three minutes: -18.
     * Minute 6: z goes. Minute 50: w begins, key 5 has 1, 7 - 1 for five minutes, then it is closed: 30.
     */
    private static final String HALL = "tune a 0 1 2 3;tune b 5;passer x plain plays a skill 9 shy 0 stays 10 comes 0;"
            + "passer y finger plays a skill 1 shy 5 stays 3 comes 1;passer z drunk plays b skill 2 shy 9 stays 2 comes 1;"
            + "passer w earner plays b skill 7 shy 3 stays 8 comes 50;waits 4;each 5;open 0 to 55;price 10;";

    private static void newObject() {
        StationPiano x = new StationPiano();
        int[] want = {0, 0, 5, 30, 0, 60, 60, 0, 0, 0, 0, 0, 0, 0};
        for (int i = 0; i < want.length; i++) {
            CHECK.due("a new object's count " + i, x.count(i), want[i]);
        }
        for (int i : new int[] {-1, 14, Integer.MIN_VALUE, Integer.MAX_VALUE}) {
            CHECK.due("count " + i, x.count(i), -1);
        }
        CHECK.due("NONE", StationPiano.NONE, -1);
        CHECK.due("no passer", x.passer(0, 0), -1);
        CHECK.due("no tune", x.tune(0, 0), -1);
        CHECK.due("no mark", x.mark(0, true), false);
        CHECK.due("no undo", x.undo(), false);
        CHECK.due("one set, the empty one", x.sets(0), 1);
        CHECK.due("in some", x.sets(2), 0);
        CHECK.due("a day of nobody", x.day(), 0);
        CHECK.due("months of nobody", x.months(0, 60, 1), 0);
        CHECK.due("hours of nobody", x.hours(1), 0);
        CHECK.due("strikes of nobody", x.strikes(0, 0), -1);
        CHECK.none("without nobody", () -> x.without(0));
    }

    private static void told() {
        StationPiano x = Check.told(HALL);
        int[][] want = {{0, 0, 9, 0, 5, 0}, {1, 0, 1, 5, 3, 1}, {2, 1, 2, 9, 2, 1}, {3, 1, 7, 3, 8, 50}};
        for (int p = 0; p < 4; p++) {
            for (int what = 0; what < 6; what++) {
                CHECK.due("passer " + p + " " + what, x.passer(p, what), want[p][what]);
            }
            CHECK.due("passer what 6", x.passer(p, 6), -1);
            CHECK.due("passer what -1", x.passer(p, -1), -1);
        }
        CHECK.due("passer 4", x.passer(4, 0), -1);
        x.each(2);
        CHECK.due("x plays 2 minutes now", x.passer(0, 4), 2);
        CHECK.due("the earner as many as he stays", x.passer(3, 4), 8);
        CHECK.due("a key of a tune", x.tune(0, 3), 3);
        CHECK.due("one beyond a tune", x.tune(0, 4), -1);
        CHECK.due("the other tune", x.tune(1, 0), 5);
        CHECK.due("one beyond the other tune", x.tune(1, 1), -1);
        CHECK.due("tune 2", x.tune(2, 0), -1);
        for (int i : OUTSIDE) {
            CHECK.due("passer", x.passer(i, 0), -1);
            CHECK.due("tune", x.tune(i, 0), -1);
            CHECK.due("tune's key", x.tune(0, i), -1);
            CHECK.due("key", x.key(i), -1);
            CHECK.due("strikes", x.strikes(i, 0), -1);
            CHECK.due("strikes on", x.strikes(0, i), -1);
            CHECK.due("share", x.share(i), -1);
        }
        CHECK.due("key 12", x.key(12), -1);
        CHECK.due("strikes on 12", x.strikes(0, 12), -1);
        CHECK.due("x strikes 3", x.strikes(0, 3), 1);
        CHECK.due("a finger does not strike the fourth", x.strikes(1, 3), 0);
        CHECK.due("a finger strikes the third", x.strikes(1, 2), 1);
        CHECK.due("a drunk strikes twice", x.strikes(2, 5), 2);
        CHECK.due("shares by 4, 3, 2, 1 of 10", x.share(0), 4000);
        CHECK.due("share 1", x.share(1), 3000);
        CHECK.due("share 3", x.share(3), 1000);
        CHECK.due("share 4", x.share(4), -1);
        StationPiano cut = Check.told("tune a 0 0 1;passer p finger plays a skill 0 shy 0 stays 1 comes 0;"
                + "passer q drunk plays a skill 0 shy 0 stays 1 comes 0;price 1;");
        CHECK.due("a third, cut", cut.share(0), 333);
        CHECK.due("two thirds, cut", cut.share(1), 666);
        CHECK.due("twice in a row, twice", cut.strikes(1, 0), 4);
    }

    private static void dayThatComes() {
        StationPiano x = Check.told(HALL);
        int[] begins = {0, 5, -1, 50, -1};
        int[] ends = {5, 8, -1, 55, -1};
        for (int p = 0; p < 5; p++) {
            CHECK.due("begins " + p, x.begins(p), begins[p]);
            CHECK.due("ends " + p, x.ends(p), ends[p]);
        }
        int[] minutes = {-1, 0, 4, 5, 7, 8, 49, 50, 54, 55, 59, 60};
        int[] players = {-1, 0, 0, 1, 1, -1, -1, 3, 3, -1, -1, -1};
        for (int i = 0; i < minutes.length; i++) {
            CHECK.due("now " + minutes[i], x.now(minutes[i]), players[i]);
        }
        for (int i : OUTSIDE) {
            CHECK.due("begins", x.begins(i), -1);
            CHECK.due("ends", x.ends(i), -1);
            CHECK.due("now", x.now(i), -1);
        }
        CHECK.due("away", x.away(), 4);
        CHECK.due("joy", x.joy(), 37);
        CHECK.due("questions change nothing", x.count(7) + x.count(12) + x.key(0), 0);
        x.open(0, 60);
        CHECK.due("then w plays to 58", x.ends(3), 58);
        x.open(0, 1);
        CHECK.due("x ends when it is closed", x.ends(0), 1);
        CHECK.due("the others are away", x.away(), 14);
        StationPiano late = Check.told("tune a 0;passer p plain plays a skill 1 shy 0 stays 30 comes 59;");
        CHECK.due("at 60 all is over", late.ends(0), 60);
        CHECK.due("one minute alone", late.joy(), 0);
    }

    private static void line() {
        String two = "tune a 0;passer p plain plays a skill 0 shy 9 stays 3 comes 0;"
                + "passer q plain plays a skill 0 shy 8 stays 3 comes 0;passer r drunk plays a skill 0 shy 9 stays 3 comes 0;";
        StationPiano x = Check.told(two + "waits 6;");
        CHECK.due("the drunk dares before two, then q before one, then p alone", x.begins(2), 0);
        CHECK.due("q", x.begins(1), 3);
        CHECK.due("p, who has stood six minutes", x.begins(0), 6);
        x = Check.told(two + "waits 5;");
        CHECK.due("p has stood six minutes, one too many", x.away(), 1);
        x = Check.told(two + "waits 0;");
        CHECK.due("nobody waits", x.away(), 3);
        CHECK.due("dare 0", x.dare(0), 7);
        CHECK.due("dare 1", x.dare(1), 6);
        CHECK.due("dare 2", x.dare(2), 4);
        CHECK.due("dare 9", x.dare(9), 4);
        CHECK.due("dare 10", x.dare(10), -1);
        for (int i : OUTSIDE) {
            CHECK.due("dare", x.dare(i), -1);
        }
        StationPiano others = Check.told(two + "waits 6;joys others;wears 0;");
        CHECK.due("two wait three minutes, one three", others.joy(), 9);
        StationPiano same = Check.told(two + "waits 6;joys same;wears 0;");
        CHECK.due("none, one, two begun ahead", same.joy(), 9);
        StationPiano order = Check.told("tune a 0;passer p plain plays a skill 0 shy 0 stays 1 comes 1;"
                + "passer q plain plays a skill 0 shy 0 stays 1 comes 0;passer r plain plays a skill 0 shy 0 stays 1 comes 1;open 2 to 9;");
        CHECK.due("who came first begins first", order.begins(1), 2);
        CHECK.due("then by numbers", order.begins(0), 3);
        CHECK.due("then the last", order.begins(2), 4);
    }

    private static int joyOf(String law) {
        return Check.told("tune a 0 0 1;passer p plain plays a skill 3 shy 0 stays 1 comes 0;joys " + law + ";").joy();
    }

    private static int wearOf(String law, int key) {
        StationPiano x = Check.told("tune a 0 0 0 1;passer p plain plays a skill 3 shy 0 stays 7 comes 0;each 4;wears " + law + ";");
        x.day();
        return x.key(key);
    }

    private static void laws() {
        CHECK.due("worn as often as struck: 2 + 2 + 1", joyOf("worn"), 5);
        CHECK.due("* before +", joyOf("1+2*3"), 7);
        CHECK.due("- from the left", joyOf("9-3-2"), 4);
        CHECK.due("+ before <", joyOf("1+1<3"), 1);
        CHECK.due("=", joyOf("able=3"), 1);
        CHECK.due("not =", joyOf("able=4"), 0);
        CHECK.due("and, or from the left", joyOf("1 or 1 and 0"), 0);
        CHECK.due("what is not 0 is so", joyOf("7 and 5"), 1);
        CHECK.due("not binds a part alone", joyOf("not 0+5"), 6);
        CHECK.due("not of what is so", joyOf("not 5"), 0);
        CHECK.due("not (..)", joyOf("not (0+5)"), 0);
        CHECK.due("at most 99", joyOf("9999"), 99);
        CHECK.due("at least -99", joyOf("0-100"), -99);
        CHECK.due("99", joyOf("99"), 99);
        CHECK.due("ints wrap: 4096 * 4096 * 256 is 0", joyOf("4096*4096*256"), 0);
        CHECK.due("ints wrap: 2^31 is below 0", joyOf("4096*4096*128"), -99);
        CHECK.due("as much open at once as can be", joyOf("0 or 0<1+1*(0 or 0<1+1*(0 or 0<1+1*(0 or 0<1+1*(0 or 5<1+1*5))))"), 1);
        CHECK.due("as long as can be", joyOf("7" + "+1-1".repeat(230)), 7);
        CHECK.due("without a law 3 - 5", Check.told("tune a 0 0 1;passer p plain plays a skill 3 shy 0 stays 1 comes 0;").joy(), -2);
        CHECK.due("wear by the key's own wear: 1, 2, 4", wearOf("used+(used=0)", 0), 4);
        CHECK.due("struck once", wearOf("used+(used=0)", 1), 1);
        CHECK.due("long is by each", wearOf("long", 1), 4);
        CHECK.due("able", wearOf("able", 1), 3);
        CHECK.due("9 at most", wearOf("able*2", 0), 9);
        CHECK.due("no less than 0", wearOf("0-able", 0), 0);
        CHECK.due("no more than 9 a strike", wearOf("4096*4096", 1), 9);
        CHECK.due("without a law 1 a strike", Check.told(HALL).lasts(3), 9);
    }

    private static void byHand() {
        StationPiano x = Check.told(HALL);
        CHECK.due("day", x.day(), 37);
        int[] wear = {2, 2, 2, 1, 0, 1, 0, 0, 0, 0, 0, 0};
        for (int k = 0; k < 12; k++) {
            CHECK.due("key " + k, x.key(k), wear[k]);
        }
        CHECK.due("the day", x.count(7), 1);
        CHECK.due("mend", x.mend(), 8);
        CHECK.due("mended", x.key(0), 0);
        CHECK.due("paid", x.count(8), 10);
        CHECK.due("each 1", x.each(1), true);
        CHECK.due("each 30", x.each(30), true);
        CHECK.due("each 0", x.each(0), false);
        CHECK.due("each 31", x.each(31), false);
        CHECK.due("open 59 to 60", x.open(59, 60), true);
        CHECK.due("open 0 to 60", x.open(0, 60), true);
        CHECK.due("open 60 to 61", x.open(60, 61), false);
        CHECK.due("open 59 to 59", x.open(59, 59), false);
        CHECK.due("open 10 to 9", x.open(10, 9), false);
        CHECK.due("open 59 to 61", x.open(59, 61), false);
        for (int i : OUTSIDE) {
            CHECK.due("each", x.each(i), false);
            CHECK.due("open", x.open(i, 60), false);
            CHECK.due("open to", x.open(5, i), false);
        }
        CHECK.due("six can be undone", x.count(12), 6);
        x.undo();
        CHECK.due("open from", x.count(4), 59);
        x.undo();
        CHECK.due("open to", x.count(5), 55);
        x.undo();
        CHECK.due("each", x.count(3), 1);
        x.undo();
        CHECK.due("each as told", x.count(3), 5);
        x.undo();
        CHECK.due("not mended", x.key(0), 2);
        CHECK.due("not paid", x.count(8), 0);
        CHECK.due("undo the day", x.undo(), true);
        CHECK.due("day 0", x.count(7), 0);
        CHECK.due("no wear", x.key(0), 0);
        CHECK.due("no more", x.undo(), false);
        for (int i = 1; i <= 20; i++) {
            x.each(i);
        }
        CHECK.due("sixteen alone", x.count(12), 16);
        for (int i = 0; i < 16; i++) {
            CHECK.due("one by one", x.undo(), true);
        }
        CHECK.due("the seventeenth is not undone", x.undo(), false);
        CHECK.due("each of the fourth", x.count(3), 4);
        StationPiano gone = Check.told("tune a 0 1;passer p plain plays a skill 0 shy 0 stays 1 comes 0;wears 9*(able<used+1);");
        gone.day();
        CHECK.due("both gone", gone.count(9), 3);
        CHECK.due("what is gone is not mended", gone.mend(), 0);
        CHECK.due("it stays gone", gone.key(1), 9);
        CHECK.due("it is gone behind 0 days", gone.lasts(0), 0);
    }

    private static void weeks() {
        StationPiano x = Check.told(HALL);
        CHECK.due("no week", x.judged(0), -1);
        CHECK.due("no week's joy", x.judged(1), 0);
        Check.feed(x, "day;mend;day;");
        x.week();
        x.day();
        x.mend();
        x.open(0, 1);
        CHECK.due("from the beginning", x.judged(1), 74);
        CHECK.due("no key is gone", x.judged(0), -1);
        CHECK.due("paid at last", x.judged(2), 10);
        CHECK.due("judging changes nothing", x.count(7), 1);
        Check.feed(x, "each 3;day;day;day;day;open 0 to 1;day;day;");
        x.week();
        CHECK.due("two a day, the ninth behind the fifth day", x.judged(0), 6);
        Check.feed(x, "each 3;");
        x.week();
        CHECK.due("no day", x.judged(1), 0);
        CHECK.none("judged 3", () -> x.judged(3));
        for (int i : OUTSIDE) {
            CHECK.none("judged", () -> x.judged(i));
            CHECK.none("best", () -> x.best(i));
        }
    }

    private static void bests() {
        StationPiano x = Check.told("tune a 0;passer p plain plays a skill 5 shy 0 stays 4 comes 10;wears 0;");
        CHECK.due("best each: the least of those from 4 on", x.best(0), 4);
        CHECK.due("best joy", x.best(1), 20);
        CHECK.none("best 2", () -> x.best(2));
        CHECK.due("hours of 1: he begins at 10 and at 15 at the latest", x.hours(1), 10);
        CHECK.due("hours of 4", x.hours(4), 10);
        CHECK.due("hours of 5", x.hours(5), 9);
        CHECK.due("hours of 59", x.hours(59), 0);
        CHECK.due("hours of 60", x.hours(60), 0);
        CHECK.due("hours of 0", x.hours(0), -1);
        CHECK.due("hours of 61", x.hours(61), -1);
        for (int i : OUTSIDE) {
            CHECK.due("hours", x.hours(i), -1);
        }
        StationPiano bad = Check.told("tune a 0;passer p plain plays a skill 5 shy 0 stays 4 comes 10;joys 0-1;");
        CHECK.due("the fewest minutes", bad.best(0), 1);
        CHECK.due("their joy", bad.best(1), -1);
        CHECK.due("when he is not there", bad.hours(5), 0);
        CHECK.due("from when he has gone", bad.hours(12), 16);
        CHECK.due("all equal", bad.hours(58), 0);
    }

    private static void whens() {
        StationPiano x = Check.told("tune a 0;passer p plain plays a skill 9 shy 0 stays 1 comes 0;price 1;joys 9-worn*2;");
        CHECK.due("one day, not mended", x.when(1, 0), 7);
        CHECK.due("none", x.when(1, 1), -1);
        CHECK.due("7, 7 less 1", x.when(2, 0), 13);
        CHECK.due("ahead of the second", x.when(2, 1), 1);
        CHECK.due("7, 7, 5 less 1: ahead of the second or the third", x.when(3, 0), 18);
        CHECK.due("the first of equal ones", x.when(3, 1), 1);
        StationPiano dear = Check.told("tune a 0;passer p plain plays a skill 9 shy 0 stays 1 comes 0;price 2;joys 9-worn*2;");
        CHECK.due("as much by a mending as by none", dear.when(2, 0), 12);
        CHECK.due("none behind all", dear.when(2, 1), 1);
        StationPiano free = Check.told("tune a 0;price 0;");
        CHECK.due("all equal: ahead of the first", free.when(9, 1), 0);
        for (int i : new int[] {0, 10, -1, Integer.MAX_VALUE, Integer.MIN_VALUE}) {
            CHECK.none("when", () -> x.when(i, 0));
        }
        for (int i : new int[] {2, -1, Integer.MAX_VALUE, Integer.MIN_VALUE}) {
            CHECK.none("when what", () -> x.when(1, i));
        }
        CHECK.due("nine days", x.when(9, 1) >= 0, true);
    }

    private static void lasts() {
        StationPiano x = Check.told(HALL);
        CHECK.due("two a day", x.lasts(0), 5);
        CHECK.due("one a day", x.lasts(3), 9);
        CHECK.due("never struck", x.lasts(4), -1);
        x.day();
        CHECK.due("from now on", x.lasts(0), 4);
        CHECK.due("key 12", x.lasts(12), -1);
        for (int i : OUTSIDE) {
            CHECK.due("lasts", x.lasts(i), -1);
        }
    }

    private static void withouts() {
        StationPiano x = Check.told(HALL);
        /* Without x: y alone stands before z from 1 on: keys 0, 1, 2 have 1: 1 - 3 for three minutes: -6; z at 4: key 5 has 2,
           2 - 4 for two minutes: -4; w: key 5 has 3: 7 - 3 - 1 for five minutes: 15. */
        CHECK.due("without x", x.without(0), 5 - 37);
        CHECK.due("without y z begins at 5: -4 and w 15", x.without(1), 25 - 4 + 15 - 37);
        CHECK.due("without z nothing is otherwise", x.without(2), 0);
        CHECK.due("without w", x.without(3), -30);
        CHECK.none("without 4", () -> x.without(4));
        for (int i : OUTSIDE) {
            CHECK.none("without", () -> x.without(i));
        }
        CHECK.due("none must stay away", x.rarer(37), 0);
        CHECK.due("y and z must: 25 + 30", x.rarer(38), 6);
        CHECK.due("55", x.rarer(55), 6);
        CHECK.due("by none", x.rarer(56), -1);
        CHECK.due("-9999", x.rarer(-9999), 0);
        CHECK.due("-10000", x.rarer(-10000), -1);
        CHECK.due("10000", x.rarer(10000), -1);
        CHECK.due("below all", x.rarer(Integer.MIN_VALUE), -1);
        StationPiano two = Check.told("tune a 0;passer p plain plays a skill 1 shy 0 stays 1 comes 0;"
                + "passer q plain plays a skill 1 shy 0 stays 1 comes 1;joys 0-able;");
        CHECK.due("the least set of one", two.rarer(-1), 1);
        CHECK.due("both", two.rarer(0), 3);
    }

    private static void finds() {
        StationPiano x = Check.told("tune a 0 1;tune b 1 2;tune c 5;passer p plain plays a skill 1 shy 0 stays 2 comes 0;"
                + "passer q plain plays b skill 2 shy 0 stays 2 comes 0;passer r plain plays c skill 3 shy 0 stays 2 comes 0;");
        CHECK.due("all sets", x.sets(0), 8);
        CHECK.due("in all", x.sets(1), 0);
        CHECK.due("in some", x.sets(2), 7);
        CHECK.due("key 1 has 0, 1, 2: four of eight alike, as by key 0", x.look(), 0);
        CHECK.due("find", x.find(1, 1), true);
        x.day();
        CHECK.due("p or q, with r or not; what is worn now is nothing to it", x.sets(0), 4);
        CHECK.due("in all", x.sets(1), 0);
        CHECK.due("in some", x.sets(2), 7);
        CHECK.due("find another", x.find(0, 1), true);
        CHECK.due("p, with r or not", x.sets(1), 1);
        CHECK.due("in some", x.sets(2), 5);
        CHECK.due("key 5 parts them", x.look(), 5);
        x.find(5, 0);
        CHECK.due("p alone", x.sets(0), 1);
        CHECK.due("none parts them", x.look(), -1);
        x.find(5, 1);
        CHECK.due("it can't be", x.sets(0), 0);
        CHECK.due("in all of none", x.sets(1), -1);
        CHECK.due("in some of none", x.sets(2), -1);
        CHECK.due("look among none", x.look(), -1);
        CHECK.due("sets 3", x.sets(3), -1);
        for (int i : OUTSIDE) {
            CHECK.due("sets", x.sets(i), -1);
            CHECK.due("find", x.find(i, 0), false);
            CHECK.due("find so much", x.find(0, i), false);
        }
        CHECK.due("find 12", x.find(12, 0), false);
        CHECK.due("find so much as 10", x.find(0, 10), false);
        CHECK.due("four found", x.count(11), 4);
        for (int i = 0; i < 4; i++) {
            CHECK.due("up to eight", x.find(11, 9), true);
        }
        CHECK.due("a ninth", x.find(11, 9), false);
        CHECK.due("eight", x.count(11), 8);
        StationPiano own = Check.told("tune a 0;passer p plain plays a skill 1 shy 0 stays 2 comes 0;"
                + "passer q plain plays a skill 2 shy 0 stays 9 comes 0;wears long+used;");
        own.find(0, 9);
        CHECK.due("2, then 2 + 9 + 2, or 9 alone", own.sets(0), 2);
        own.each(3);
        CHECK.due("2, then 2 + 3 + 2 is 7; it is never 9", own.sets(0), 0);
    }

    private static void restings() {
        StationPiano x = new StationPiano();
        CHECK.due("both would let, or one", x.rests(0, 0, 0, -1), 4);
        for (int i = 0; i < 4; i++) {
            CHECK.due("all four, the least first", x.rests(0, 0, 0, i), i);
        }
        CHECK.none("a fifth", () -> x.rests(0, 0, 0, 4));
        CHECK.due("one goes ahead", x.rests(3, 5, 2, -1), 2);
        CHECK.due("the other one", x.rests(3, 5, 2, 0), 1);
        CHECK.due("the first one", x.rests(3, 5, 2, 1), 2);
        CHECK.none("a third", () -> x.rests(3, 5, 2, 2));
        CHECK.due("both go ahead too", x.rests(0, 9, 0, 2), 3);
        CHECK.due("both let", x.rests(9, 0, 9, 0), 0);
        CHECK.due("three", x.rests(9, 0, 9, -1), 3);
        CHECK.none("what -2", () -> x.rests(1, 1, 1, -2));
        for (int i : new int[] {-1, 10, Integer.MIN_VALUE, Integer.MAX_VALUE}) {
            CHECK.none("loses", () -> x.rests(i, 1, 1, -1));
            CHECK.none("ahead", () -> x.rests(1, i, 1, -1));
            CHECK.none("lets", () -> x.rests(1, 1, i, -1));
        }
    }

    private static void rules() {
        StationPiano x = Check.told(HALL);
        CHECK.due("as it is", x.rule(1, 5), 37);
        CHECK.due("x three minutes 15, y at 3 -18, w 30", x.rule(1, 3), 27);
        int both = x.joy();
        x.day();
        both += x.joy();
        x.undo();
        CHECK.due("two days, one behind another", x.rule(2, 5), both);
        CHECK.due("nothing is changed", x.count(3) * 100 + x.count(7), 500);
        for (int i : new int[] {0, 31, -1, Integer.MIN_VALUE, Integer.MAX_VALUE}) {
            CHECK.none("rule's days", () -> x.rule(i, 5));
            CHECK.none("rule's minutes", () -> x.rule(5, i));
        }
        x.rule(30, 30);
        x.rule(30, 1);
    }

    private static void months() {
        /* From 1 on g / 65536 is 16838, 5758, 10113, 17515, 31051: p comes at 38, q at 58, no mending by 1 of 4; on the second
           day p at 55, when q has played since 31, and goes. */
        StationPiano x = Check.told("tune a 0 1 2;passer p plain plays a skill 9 shy 0 stays 1 comes 3;"
                + "passer q plain plays a skill 1 shy 0 stays 30 comes 3;wears 3;joys able;price 7;open 17 to 60;waits 0;");
        CHECK.due("one minute of p, two of q", x.months(1, 1, 0), 9 + 2);
        CHECK.due("both played", x.months(1, 1, 1), 2);
        CHECK.due("no mending", x.months(1, 1, 2), 0);
        CHECK.due("29 minutes of q more", x.months(1, 2, 0), 11 + 29);
        CHECK.due("three played", x.months(1, 2, 1), 3);
        CHECK.due("nothing is changed", x.count(7) + x.key(0) + x.count(8) + x.passer(0, 5), 3);
        for (int i : new int[] {-1, 10000, Integer.MIN_VALUE, Integer.MAX_VALUE}) {
            CHECK.none("seed", () -> x.months(i, 1, 0));
        }
        for (int i : new int[] {0, 61, -1, Integer.MIN_VALUE, Integer.MAX_VALUE}) {
            CHECK.none("days", () -> x.months(1, i, 0));
        }
        for (int i : new int[] {3, -1, Integer.MIN_VALUE, Integer.MAX_VALUE}) {
            CHECK.none("what", () -> x.months(1, 1, i));
        }
        x.mend();
        int paid = x.months(9999, 60, 2);
        CHECK.due("paid by these alone, seven each", paid % 7, 0);
    }

    private static void marks() {
        StationPiano x = Check.told(HALL);
        CHECK.due("nothing is on it", x.mark(3, true), false);
        x.day();
        x.mend();
        x.each(9);
        x.open(7, 8);
        x.day();
        x.find(2, 2);
        Check.feed(x, "day;day;");
        x.week();
        int[] want = new int[12];
        for (int i = 0; i < 12; i++) {
            want[i] = x.count(i);
        }
        CHECK.due("laid", x.mark(3, false), true);
        CHECK.due("all can be undone still", x.count(12), 5);
        x.undo();
        x.day();
        x.mend();
        x.each(1);
        x.open(1, 3);
        x.find(1, 1);
        Check.feed(x, "day;mend;day;");
        x.week();
        CHECK.due("gone back to", x.mark(3, true), true);
        for (int i = 0; i < 12; i++) {
            CHECK.due("as it was: count " + i, x.count(i), want[i]);
        }
        CHECK.due("two days", x.judged(1), Check.told(HALL).rule(2, 5));
        CHECK.due("nothing can be undone", x.undo(), false);
        CHECK.due("it is there still", x.mark(3, true), true);
        CHECK.due("another is not", x.mark(2, true), false);
        for (int i : new int[] {-1, 4, Integer.MIN_VALUE, Integer.MAX_VALUE}) {
            CHECK.due("none such", x.mark(i, false), false);
            CHECK.due("none such back", x.mark(i, true), false);
        }
    }

    public static void main(String[] args) {
        newObject();
        told();
        dayThatComes();
        line();
        laws();
        byHand();
        weeks();
        bests();
        whens();
        lasts();
        withouts();
        finds();
        restings();
        rules();
        months();
        marks();
        CHECK.end("PromiseTest");
    }
}
