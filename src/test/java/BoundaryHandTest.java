/** The boundary cases that the document names for what is done by hand, for weeks, marks and counts: promises 14 to 18, 34, 35. */
public final class BoundaryHandTest {
    private static final Check CHECK = new Check();
    private static final String ONE = "tune a 0;" + Check.who("p", "plain", "a", 1, 0, 1, 0);

    private static void mends() {
        CHECK.of(14, "MEND: all KEYS that are not GONE have no WEAR then; the price is paid.");
        StationPiano x = Check.told("tune a 0 0 0 0 0 0 0 0 0;tune b 11 11 11 11 11 11 11 11 5;" + Check.who("p", "plain", "a", 0, 0, 1, 0)
                + Check.who("q", "plain", "b", 0, 0, 1, 5) + "price 999;");
        CHECK.due("nothing is worn", x.mend(), 0);
        CHECK.due("it is paid all the same", x.count(8), 999);
        x.day();
        CHECK.due("9", x.key(0), 9);
        CHECK.due("8", x.key(11), 8);
        CHECK.of(14, "MEND: how much WEAR there was (of KEYS that are not GONE).");
        CHECK.due("8 and 1, not the 9", x.mend(), 9);
        CHECK.due("what is gone stays gone", x.key(0), 9);
        CHECK.due("8 is none now", x.key(11), 0);
        CHECK.due("1 is none now", x.key(5), 0);
        CHECK.due("gone", x.count(9), 1);
        CHECK.due("paid twice", x.count(8), 1998);
        CHECK.due("the day is the same", x.count(7), 1);
        CHECK.due("nothing is left", x.mend(), 0);
        StationPiano all = Check.told("tune a 0 1 2 3 4 5 6 7 8;tune b 9 10 11;" + Check.who("p", "plain", "a", 0, 0, 1, 0)
                + Check.who("q", "plain", "b", 0, 0, 1, 5) + "price 0;wears 8;");
        all.day();
        CHECK.due("twelve keys of 8", all.mend(), 96);
        CHECK.due("for nothing", all.count(8), 0);
        all.day();
        all.day();
        CHECK.due("all are gone", all.count(9), 4095);
        CHECK.due("nothing to mend", all.mend(), 0);
    }

    private static void refused(StationPiano x, int undos) {
        CHECK.due("each stays", x.count(3), 7);
        CHECK.due("open from stays", x.count(4), 3);
        CHECK.due("open to stays", x.count(5), 9);
        CHECK.due("nothing more can be undone", x.count(12), undos);
    }

    private static void eaches() {
        CHECK.of(15, "EACH: true; false: others.");
        StationPiano x = Check.told(ONE + "each 7;open 3 to 9;");
        for (int wrong : new int[] {0, 31, -1, -2, 60, Integer.MIN_VALUE, Integer.MAX_VALUE}) {
            CHECK.due("each " + wrong, x.each(wrong), false);
            refused(x, 0);
        }
        for (int right : new int[] {1, 2, 29, 30, 30}) {
            CHECK.due("each " + right, x.each(right), true);
            CHECK.due("each is " + right, x.count(3), right);
        }
        CHECK.due("each counts, the same twice too", x.count(12), 5);
    }

    private static void opens() {
        CHECK.of(16, "OPEN: true; false: others.");
        StationPiano x = Check.told(ONE + "each 7;open 3 to 9;");
        int[][] wrong = {{-1, 5}, {0, 0}, {0, 61}, {5, 5}, {6, 5}, {59, 59}, {59, 61}, {60, 60}, {60, 61}, {5, -1},
            {Integer.MIN_VALUE, 5}, {Integer.MAX_VALUE, Integer.MIN_VALUE}, {0, Integer.MAX_VALUE}, {-2, -1}};
        for (int[] hours : wrong) {
            CHECK.due("open " + hours[0] + " to " + hours[1], x.open(hours[0], hours[1]), false);
            refused(x, 0);
        }
        int[][] right = {{0, 1}, {0, 60}, {59, 60}, {30, 31}, {30, 31}};
        for (int[] hours : right) {
            CHECK.due("open " + hours[0] + " to " + hours[1], x.open(hours[0], hours[1]), true);
            CHECK.due("from", x.count(4), hours[0]);
            CHECK.due("to", x.count(5), hours[1]);
        }
        CHECK.due("each of them counts", x.count(12), 5);
    }

    private static void undoEachKind() {
        CHECK.of(17, "UNDO: these, the last 16, one by one.");
        StationPiano x = Check.told(ONE + "each 7;open 3 to 9;waits 9;price 5;");
        x.day();
        x.mend();
        x.each(8);
        x.open(1, 2);
        CHECK.due("open", x.undo(), true);
        CHECK.due("from as told", x.count(4), 3);
        CHECK.due("to as told", x.count(5), 9);
        CHECK.due("each is set still", x.count(3), 8);
        CHECK.due("each", x.undo(), true);
        CHECK.due("each as told", x.count(3), 7);
        CHECK.due("paid still", x.count(8), 5);
        CHECK.due("mend", x.undo(), true);
        CHECK.due("not paid", x.count(8), 0);
        CHECK.due("worn again", x.key(0), 1);
        CHECK.due("the day still", x.count(7), 1);
        CHECK.due("day", x.undo(), true);
        CHECK.due("no day", x.count(7), 0);
        CHECK.due("no wear", x.key(0), 0);
        CHECK.of(17, "UNDO: true; false: nothing can be.");
        CHECK.due("nothing can be", x.undo(), false);
        CHECK.due("no less than nothing", x.count(12), 0);
        CHECK.due("an undo is not undone", x.undo(), false);
    }

    private static void undoSixteen() {
        CHECK.of(17, "UNDO: these, the last 16, one by one.");
        for (int many : new int[] {15, 16, 17, 31, 32, 33, 48}) {
            StationPiano x = Check.told(ONE + "wears 0;");
            for (int i = 1; i <= many; i++) {
                x.day();
                CHECK.due("behind " + i, x.count(12), Math.min(16, i));
            }
            int most = Math.min(16, many);
            for (int i = 1; i <= most; i++) {
                CHECK.due("undo " + i + " of " + many, x.undo(), true);
                CHECK.due("the day", x.count(7), many - i);
                CHECK.due("what can be undone", x.count(12), most - i);
            }
            CHECK.due("one more", x.undo(), false);
            CHECK.due("the day stays", x.count(7), many - most);
            x.each(3);
            CHECK.due("then one can", x.count(12), 1);
            CHECK.due("it is undone", x.undo(), true);
            CHECK.due("each as told", x.count(3), 30);
        }
    }

    private static void undoOnlyThese() {
        CHECK.of(17, "By hand: DAY: it passes");
        StationPiano x = Check.told(ONE);
        x.find(0, 1);
        Check.planned(x, "day;mend;");
        x.mark(0, false);
        x.joy();
        x.best(0);
        x.hours(5);
        x.when(9, 0);
        x.lasts(0);
        x.rule(5, 5);
        x.months(5, 5, 0);
        x.rarer(5);
        CHECK.due("none of these can be undone", x.count(12), 0);
        x.day();
        x.find(0, 0);
        Check.planned(x, "day;");
        CHECK.due("the day is undone", x.undo(), true);
        CHECK.due("what is found stays", x.count(11), 2);
        CHECK.due("the week stays", x.count(10), 1);
        x.day();
        Check.feed(x, "foo");
        x.station();
        CHECK.due("a fault leaves it", x.undo(), true);
    }

    private static void judgedLines() {
        CHECK.of(18, "the first day's line (from 0) behind which a KEY is GONE");
        StationPiano x = Check.told("tune a 0 0 0 0 0 0 0 0 0;" + Check.who("p", "plain", "a", 1, 0, 1, 10) + "price 7;joys 5;");
        String[] weeks = {"day;", "day;day;", "mend;each 3;open 0 to 30;day;day;", "open 0 to 10;day;open 0 to 11;day;",
            "mend;".repeat(39) + "day;", "open 0 to 9;" + "day;".repeat(39), "", "mend;", "day;mend;day;"};
        int[] lines = {0, 0, 3, 3, 39, -1, -1, -1, 0};
        int[] joys = {5, 10, 10, 5, 5, 0, 0, 0, 10};
        int[] paid = {0, 0, 7, 0, 273, 0, 0, 7, 7};
        for (int i = 0; i < weeks.length; i++) {
            Check.planned(x, weeks[i]);
            CHECK.due("the line of " + weeks[i], x.judged(0), lines[i]);
            CHECK.due("joy of " + weeks[i], x.judged(1), joys[i]);
            CHECK.due("paid of " + weeks[i], x.judged(2), paid[i]);
        }
        StationPiano slow = Check.told(ONE);
        Check.planned(slow, "day;".repeat(8));
        CHECK.due("eight days", slow.judged(0), -1);
        Check.planned(slow, "day;".repeat(40));
        CHECK.due("the ninth of forty", slow.judged(0), 8);
        Check.planned(slow, "day;mend;".repeat(20));
        CHECK.due("never", slow.judged(0), -1);
        Check.planned(slow, "mend;".repeat(31) + "day;".repeat(9));
        CHECK.due("the last line", slow.judged(0), 39);
        CHECK.of(18, "NoSuchElementException: others.");
        for (int wrong : new int[] {-1, 3, -2, Integer.MIN_VALUE, Integer.MAX_VALUE}) {
            CHECK.none("judged(" + wrong + ")", () -> slow.judged(wrong));
        }
    }

    private static void judgedFromBeginning() {
        CHECK.of(18, "JUDGED: the WEEK from the beginning");
        StationPiano x = Check.told("tune a 0 0 0;" + Check.who("p", "plain", "a", 1, 0, 30, 0) + "each 7;open 0 to 9;price 5;joys 1;");
        Check.planned(x, "day;each 8;day;each 30;day;open 3 to 60;day;");
        for (int i = 0; i < 4; i++) {
            x.day();
        }
        x.mend();
        x.each(1);
        x.open(0, 1);
        CHECK.due("7, 8, 9 when it is closed, 30 from 3 on", x.judged(1), 7 + 8 + 9 + 30);
        CHECK.due("the third day's line", x.judged(0), 4);
        CHECK.due("paid by the week alone", x.judged(2), 0);
        int[] counts = {1, 1, 5, 1, 0, 1, 5, 4, 5, 1};
        for (int i = 0; i < counts.length; i++) {
            CHECK.due("judging changes nothing: count(" + i + ")", x.count(i), counts[i]);
        }
        CHECK.due("nor what can be undone", x.count(12), 7);
        StationPiano from = Check.told(ONE + "waits 0;joys 5;");
        Check.planned(from, "open 1 to 60;day;open 0 to 60;day;open 1 to 2;day;");
        CHECK.due("open from", from.judged(1), 5);
    }

    private static void markBounds() {
        CHECK.of(34, "true; false: none such, nothing is on it (back)");
        StationPiano x = Check.told(ONE);
        x.day();
        for (int wrong : new int[] {-1, 4, -2, Integer.MIN_VALUE, Integer.MAX_VALUE}) {
            CHECK.due("mark(" + wrong + ", false)", x.mark(wrong, false), false);
            CHECK.due("mark(" + wrong + ", true)", x.mark(wrong, true), false);
        }
        for (int mark = 0; mark < 4; mark++) {
            CHECK.due("nothing is on " + mark, x.mark(mark, true), false);
        }
        CHECK.due("what is refused leaves the undoing", x.count(12), 1);
        for (int mark = 0; mark < 4; mark++) {
            CHECK.due("laid " + mark, x.mark(mark, false), true);
            for (int other = mark + 1; other < 4; other++) {
                CHECK.due("nothing is on " + other, x.mark(other, true), false);
            }
            x.day();
        }
        for (int mark = 3; mark >= 0; mark--) {
            CHECK.due("gone back to " + mark, x.mark(mark, true), true);
            CHECK.due("its day", x.count(7), mark + 1);
            CHECK.due("its wear", x.key(0), mark + 1);
        }
        CHECK.due("back to the last, the others are there still", x.mark(3, true), true);
        CHECK.due("its day", x.count(7), 4);
        CHECK.due("laid again", x.mark(0, false), true);
        x.day();
        CHECK.due("back", x.mark(0, true), true);
        CHECK.due("the newer one", x.count(7), 4);
    }

    private static void markHolds() {
        CHECK.of(34, "MARKS 0 to 3 hold the day, WEAR, each, open, paid, the WEEK, FOUND");
        StationPiano x = Check.told(ONE + "waits 9;price 5;");
        x.mark(1, false);
        x.day();
        x.mend();
        x.day();
        x.each(8);
        x.open(0, 50);
        x.find(0, 1);
        Check.planned(x, "mend;mend;");
        x.mark(0, false);
        int[] kept = {1, 1, 9, 8, 0, 50, 5, 2, 5, 0, 2, 1, 5, 0};
        int[] first = {1, 1, 9, 30, 0, 60, 5, 0, 0, 0, 0, 0, 0, 0};
        for (int i = 0; i < 14; i++) {
            CHECK.due("laying changes nothing: count(" + i + ")", x.count(i), kept[i]);
        }
        kept[12] = 0;
        CHECK.due("back to the first", x.mark(1, true), true);
        for (int i = 0; i < 14; i++) {
            CHECK.due("the first: count(" + i + ")", x.count(i), first[i]);
        }
        CHECK.due("no wear", x.key(0), 0);
        CHECK.due("both sets", x.sets(0), 2);
        CHECK.due("no week", x.judged(2), 0);
        x.find(0, 0);
        x.find(1, 1);
        x.day();
        Check.planned(x, "day;day;day;");
        CHECK.due("back to the other", x.mark(0, true), true);
        for (int i = 0; i < 14; i++) {
            CHECK.due("the other: count(" + i + ")", x.count(i), kept[i]);
        }
        CHECK.due("its wear", x.key(0), 1);
        CHECK.due("what is found", x.sets(1), 1);
        CHECK.due("its week", x.judged(2), 10);
        CHECK.of(34, "(nothing can be undone when one is gone back to)");
        CHECK.due("undo", x.undo(), false);
        x.day();
        CHECK.due("but what comes behind", x.undo(), true);
        CHECK.due("to the mark", x.count(7), 2);
        CHECK.due("and no further", x.undo(), false);
    }

    private static void markFound() {
        CHECK.of(34, "the WEEK, FOUND");
        StationPiano x = Check.told("tune a 3;tune b 5 5;" + Check.who("p", "plain", "a", 1, 0, 1, 0) + Check.who("q", "plain", "b", 1, 0, 1, 5));
        x.mark(2, false);
        x.find(3, 1);
        x.find(5, 0);
        x.mark(0, false);
        x.find(5, 2);
        CHECK.due("it can't be", x.sets(0), 0);
        x.mark(2, true);
        CHECK.due("nothing is found", x.sets(0), 4);
        x.find(5, 2);
        x.find(3, 0);
        CHECK.due("the second alone", x.sets(1), 2);
        x.mark(1, false);
        x.mark(0, true);
        CHECK.due("the first", x.sets(1), 1);
        CHECK.due("alone", x.sets(2), 1);
        x.mark(1, true);
        CHECK.due("the second again", x.sets(1), 2);
        CHECK.due("two are found", x.count(11), 2);
    }

    private static void markFull() {
        CHECK.of(34, "A MARK is laid (back: gone back to)");
        StationPiano x = Check.told(ONE + "wears 0;");
        x.mark(2, false);
        Check.planned(x, "day;".repeat(40));
        for (int i = 0; i < 8; i++) {
            x.find(i, 0);
        }
        x.mark(3, false);
        CHECK.due("back", x.mark(2, true), true);
        CHECK.due("room again", x.find(0, 9), true);
        CHECK.due("an empty week", x.count(10), 0);
        x.mark(3, true);
        CHECK.due("forty lines", x.count(10), 40);
        CHECK.due("eight found", x.count(11), 8);
        CHECK.due("no ninth", x.find(8, 0), false);
        Check.feed(x, "tape");
        x.mark(2, true);
        CHECK.due("the tape is not held", x.count(13), 4);
        CHECK.due("a fault", x.station() != 0, true);
        CHECK.due("leaves the marks", x.mark(3, true), true);
        CHECK.due("another station", x.station(), 0);
        CHECK.due("does not", x.mark(3, true), false);
        CHECK.due("nor this", x.mark(2, true), false);
    }

    private static void counts() {
        CHECK.of(35, "NONE for another what.");
        StationPiano x = Check.told("tune a 0 0 0 0 0 0 0 0 0;tune b 11;" + Check.who("p", "plain", "a", 1, 0, 1, 0)
                + Check.who("q", "drunk", "b", 1, 0, 1, 5) + Check.who("r", "drunk", "b", 1, 0, 1, 9) + "waits 4;each 5;open 0 to 59;price 7;");
        for (int i = 0; i < 3; i++) {
            x.day();
        }
        x.mend();
        x.find(0, 0);
        Check.planned(x, "day;day;day;day;");
        Check.feed(x, " \n abc");
        int[] want = {2, 3, 4, 5, 0, 59, 7, 3, 7, 1 + (1 << 11), 4, 1, 4, 6};
        for (int what = 0; what < 14; what++) {
            CHECK.due("count(" + what + ")", x.count(what), want[what]);
        }
        for (int wrong : new int[] {-1, 14, 15, -2, Integer.MIN_VALUE, Integer.MAX_VALUE}) {
            CHECK.due("count(" + wrong + ")", x.count(wrong), -1);
        }
        CHECK.of(35, "9: KEYS that are GONE, as bits");
        StationPiano y = Check.told(ONE + "wears 8;");
        y.day();
        CHECK.due("worn 8", y.count(9), 0);
        y.day();
        CHECK.due("worn 9", y.count(9), 1);
    }

    public static void main(String[] args) {
        mends();
        eaches();
        opens();
        undoEachKind();
        undoSixteen();
        undoOnlyThese();
        judgedLines();
        judgedFromBeginning();
        markBounds();
        markHolds();
        markFound();
        markFull();
        counts();
        CHECK.namesAll(14, 18);
        CHECK.namesAll(34, 35);
        CHECK.end("BoundaryHandTest");
    }
}
