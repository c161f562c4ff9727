import java.math.BigInteger;

/** The boundary cases that the document names for what is asked: promises 19 to 33. */
public final class BoundaryAskTest {
    private static final Check CHECK = new Check();
    private static final int LOW = Integer.MIN_VALUE;
    private static final int HIGH = Integer.MAX_VALUE;
    private static final String ONE = "tune a 0;" + Check.who("p", "plain", "a", 1, 0, 1, 0);

    private static StationPiano player(String kind, int stays, int comes, String rest) {
        return Check.told("tune a 0;" + Check.who("p", kind, "a", 1, 0, stays, comes) + rest);
    }

    private static StationPiano worn(StationPiano x, int days) {
        for (int i = 0; i < days; i++) {
            x.day();
        }
        return x;
    }

    private static void best(String what, StationPiano x, int minutes, int joy) {
        CHECK.due(what + ": minutes", x.best(0), minutes);
        CHECK.due(what + ": joy", x.best(1), joy);
    }

    private static void bests() {
        CHECK.of(19, "BEST each (1 to 30) by which the DAY's JOY is the most; of equal ones the least.");
        best("all thirty", player("plain", 30, 0, "joys 1;"), 30, 30);
        best("all thirty, each told less", player("plain", 30, 0, "joys 1;each 3;"), 30, 30);
        best("29", player("plain", 29, 0, "joys 1;"), 29, 29);
        best("one alone", player("plain", 30, 0, "joys 0-1;"), 1, -1);
        best("all equal", player("plain", 30, 0, "joys 0;"), 1, 0);
        best("an earner", player("earner", 30, 0, "joys 1;"), 1, 30);
        best("as long as it is open", player("plain", 30, 0, "joys 1;open 0 to 7;"), 7, 7);
        best("nobody", Check.told("tune a 0;"), 1, 0);
        best("the most is below 0", player("plain", 2, 0, "joys 0-99;"), 1, -99);
        best("wear by how long: 9 less than 5 minutes", player("plain", 30, 0, "joys 5-worn;wears 9*(4<long);"), 4, 20);
        StationPiano x = player("plain", 30, 0, "joys 9-worn;wears 3;each 2;");
        best("now", x, 30, 180);
        x.day();
        x.open(0, 20);
        best("as all is then", x, 20, 60);
        CHECK.due("each stays", x.count(3), 2);
        CHECK.due("nothing is worn by it", x.key(0), 3);
        CHECK.of(19, "BEST each, what 0: minutes, 1: JOY. NoSuchElementException: others.");
        for (int wrong : new int[] {-1, 2, LOW, HIGH}) {
            CHECK.none("best(" + wrong + ")", () -> x.best(wrong));
        }
    }

    private static void hours() {
        CHECK.of(20, "of just so many (1 to 60) minutes, to be open, by which it is the most; of equal ones the first: from when.");
        StationPiano last = player("plain", 1, 59, "joys 1;waits 0;");
        CHECK.due("the last minute", last.hours(1), 59);
        CHECK.due("the last two", last.hours(2), 58);
        CHECK.due("all but one", last.hours(59), 1);
        CHECK.due("all", last.hours(60), 0);
        StationPiano first = player("plain", 1, 0, "joys 0-1;waits 0;");
        CHECK.due("from the second on", first.hours(1), 1);
        CHECK.due("59 from the second on", first.hours(59), 1);
        CHECK.due("all", first.hours(60), 0);
        StationPiano equal = player("plain", 1, 20, "joys 0;");
        CHECK.due("all equal", equal.hours(1), 0);
        CHECK.due("all equal", equal.hours(59), 0);
        StationPiano late = player("plain", 30, 30, "joys 1;open 3 to 4;");
        CHECK.due("thirty minutes, whatever is open now", late.hours(30), 30);
        CHECK.due("29, the first of two", late.hours(29), 30);
        CHECK.due("31, the first of those with all", late.hours(31), 29);
        CHECK.due("open from stays", late.count(4), 3);
        CHECK.due("open to stays", late.count(5), 4);
        StationPiano two = Check.told("tune a 0;" + Check.who("p", "plain", "a", 1, 0, 30, 0) + Check.who("q", "plain", "a", 2, 0, 1, 50)
                + "joys able*3-worn;");
        CHECK.due("what one hour wears the next does not find", two.hours(1), 50);
        CHECK.due("asked again", two.hours(1), 50);
        CHECK.due("nothing is worn by it", two.key(0), 0);
        CHECK.of(20, "HOURS of so many minutes; NONE: others.");
        for (int wrong : new int[] {0, 61, -1, LOW, HIGH}) {
            CHECK.due("hours(" + wrong + ")", late.hours(wrong), -1);
        }
    }

    private static void when(String what, StationPiano x, int days, int much, int ahead) {
        CHECK.due(what + ": how much in " + days, x.when(days, 0), much);
        CHECK.due(what + ": ahead of which of " + days, x.when(days, 1), ahead);
    }

    private static void whens() {
        CHECK.of(21, "JOY of all less the price: the most; of equal ones the first DAY, none behind all: how much; ahead of which.");
        when("worn 8, 7 paid", worn(Check.told(ONE + "joys 0-worn;price 7;"), 8), 1, -8, 0);
        when("worn 8, 8 paid: equal", worn(Check.told(ONE + "joys 0-worn;price 8;"), 8), 1, -9, 0);
        when("worn 8, 9 paid", worn(Check.told(ONE + "joys 0-worn;price 9;"), 8), 1, -9, -1);
        when("gone, 0 paid: equal", worn(Check.told(ONE + "joys 0-worn;price 0;"), 9), 1, -9, 0);
        when("gone, 1 paid", worn(Check.told(ONE + "joys 0-worn;price 1;"), 9), 9, -81, -1);
        String late = ONE + "wears used<5;joys worn+10*(worn=1);price ";
        when("ahead of the last of nine, 5 paid", worn(Check.told(late + "5;"), 5), 9, 46, 8);
        when("ahead of the last of nine, 6 paid: equal", worn(Check.told(late + "6;"), 5), 9, 45, 8);
        when("none, 7 paid", worn(Check.told(late + "7;"), 5), 9, 45, -1);
        when("nobody, 0 paid", Check.told("price 0;"), 9, 0, 0);
        when("nobody, 1 paid", Check.told("price 1;"), 9, 0, -1);
        when("what is worn on the first day, ahead of the second or third", Check.told(ONE + "joys 0-worn;price 0;"), 3, -4, 1);
        StationPiano behind = worn(Check.told(ONE + "joys 0-worn;price 7;"), 8);
        behind.best(1);
        when("asked behind another question", behind, 1, -8, 0);
        StationPiano x = worn(Check.told(ONE + "joys 0-worn;price 7;"), 8);
        x.mend();
        worn(x, 8);
        when("what was paid before is not in it", x, 1, -8, 0);
        CHECK.due("nothing is paid by it", x.count(8), 7);
        CHECK.due("nothing is worn by it", x.key(0), 8);
        CHECK.due("no day passes by it", x.count(7), 16);
        CHECK.of(21, "WHEN to MEND for so many DAYS (1 to 9)");
        for (int wrong : new int[] {0, 10, -1, LOW, HIGH}) {
            CHECK.none("when(" + wrong + ", 0)", () -> x.when(wrong, 0));
            CHECK.none("when(" + wrong + ", 1)", () -> x.when(wrong, 1));
        }
        CHECK.of(21, "WHEN, what 0: how much, 1: ahead of which DAY (0 on; NONE: none). NoSuchElementException: others.");
        for (int wrong : new int[] {-1, 2, LOW, HIGH}) {
            CHECK.none("when(1, " + wrong + ")", () -> x.when(1, wrong));
        }
    }

    private static void lasts() {
        CHECK.of(22, "LASTS of a KEY: behind how many DAYS (0 to 60) it is GONE.");
        StationPiano x = Check.told("tune a 0 11 11;" + Check.who("p", "plain", "a", 1, 0, 1, 0));
        CHECK.due("one a day", x.lasts(0), 9);
        CHECK.due("two a day", x.lasts(11), 5);
        worn(x, 4);
        CHECK.due("one a day, four days on", x.lasts(0), 5);
        CHECK.due("two a day, four days on", x.lasts(11), 1);
        worn(x, 1);
        CHECK.due("it is gone", x.lasts(11), 0);
        worn(x, 9);
        CHECK.due("both are", x.lasts(0), 0);
        CHECK.due("wears 9", Check.told(ONE + "wears 9;").lasts(0), 1);
        CHECK.due("no day passes by it", x.count(7), 14);
        CHECK.of(22, "LASTS; NONE: others, not within 60.");
        CHECK.due("nobody strikes it", x.lasts(5), -1);
        CHECK.due("wears 0", Check.told(ONE + "wears 0;").lasts(0), -1);
        CHECK.due("it stays at 8", Check.told(ONE + "wears used<8;").lasts(0), -1);
        CHECK.due("nobody plays", Check.told(ONE + "open 1 to 2;waits 0;").lasts(0), -1);
        for (int wrong : new int[] {-1, 12, LOW, HIGH}) {
            CHECK.due("lasts(" + wrong + ")", x.lasts(wrong), -1);
        }
    }

    private static void withouts() {
        CHECK.of(23, "WITHOUT a PASSER: JOY of the DAY, if he does not come, less that if he does.");
        StationPiano shy = Check.told("tune a 0;" + Check.who("p", "plain", "a", 3, 9, 1, 0) + Check.who("q", "plain", "a", 5, 9, 1, 0)
                + "joys able;");
        CHECK.due("he keeps her off", shy.without(0), 5);
        CHECK.due("she keeps him off", shy.without(1), 3);
        CHECK.due("what he brings", player("plain", 30, 0, "joys 2;").without(0), -60);
        CHECK.due("what he spoils", player("plain", 30, 0, "joys 0-2;").without(0), 60);
        CHECK.due("nothing", player("plain", 30, 0, "joys 0;").without(0), 0);
        CHECK.due("he still is one", shy.begins(0), -1);
        StringBuilder seven = new StringBuilder("tune a 0;joys able;");
        for (int p = 0; p < 7; p++) {
            seven.append(Check.who("p" + (char) ('a' + p), "plain", "a", p, 0, 1, 5 * p));
        }
        StationPiano all = Check.told(seven.toString());
        for (int p = 0; p < 7; p++) {
            CHECK.due("without " + p + " of seven", all.without(p), -p);
        }
        CHECK.of(23, "WITHOUT. NoSuchElementException: others.");
        for (int wrong : new int[] {-1, 2, 7, LOW, HIGH}) {
            CHECK.none("without(" + wrong + ")", () -> shy.without(wrong));
        }
        CHECK.none("without(7) of seven", () -> all.without(7));
    }

    private static void rarers() {
        CHECK.of(24, "the fewest PASSERS who must not come so that the DAY's JOY is no less than so much (-9999 to 9999); of equal ones the least set (bits)");
        StringBuilder seven = new StringBuilder("tune a 0;joys 0-1;");
        for (int p = 0; p < 7; p++) {
            seven.append(Check.who("p" + (char) ('a' + p), "plain", "a", p, 0, 1, 5 * p));
        }
        StationPiano x = Check.told(seven.toString());
        int[] joys = {-9999, -8, -7, -6, -5, -4, -3, -2, -1, 0, 1, 9999};
        int[] sets = {0, 0, 0, 1, 3, 7, 15, 31, 63, 127, -1, -1};
        for (int i = 0; i < joys.length; i++) {
            CHECK.due("rarer(" + joys[i] + ")", x.rarer(joys[i]), sets[i]);
        }
        StationPiano heavy = Check.told("tune a 0;joys 0-able;" + Check.who("p", "plain", "a", 1, 0, 1, 0)
                + Check.who("q", "plain", "a", 1, 0, 1, 5) + Check.who("r", "plain", "a", 2, 0, 1, 10));
        CHECK.due("one is fewer than two", heavy.rarer(-2), 4);
        CHECK.due("the least set of one", heavy.rarer(-3), 1);
        CHECK.due("two of the least set", heavy.rarer(-1), 5);
        StationPiano full = Check.told("tune a 0;joys 99;" + Check.who("p", "plain", "a", 1, 0, 30, 0) + Check.who("q", "plain", "a", 1, 0, 30, 30));
        CHECK.due("just so much", full.rarer(5940), 0);
        CHECK.due("one more", full.rarer(5941), -1);
        StationPiano wearing = Check.told("tune a 0;joys 20-worn-able;" + Check.who("p", "plain", "a", 1, 0, 1, 0)
                + Check.who("q", "plain", "a", 2, 0, 1, 5) + Check.who("r", "plain", "a", 9, 0, 1, 10));
        CHECK.due("18, 16, 8: all", wearing.rarer(42), 0);
        CHECK.due("one more is too much", wearing.rarer(43), -1);
        CHECK.due("asked again", wearing.rarer(42), 0);
        StationPiano last = Check.told("tune a 0;joys 9-worn-9*same;" + Check.who("p", "plain", "a", 0, 0, 1, 0)
                + Check.who("q", "plain", "a", 0, 0, 1, 5) + Check.who("r", "plain", "a", 0, 0, 1, 10));
        CHECK.due("8, -2, -12: -6 by all", last.rarer(-6), 0);
        CHECK.due("8 and -2 by two", last.rarer(-5), 1);
        CHECK.due("6 by two", last.rarer(6), 1);
        CHECK.due("8 by one, each as on a day of its own", last.rarer(8), 3);
        CHECK.of(24, "RARER, as bits; NONE: others, by none.");
        for (int wrong : new int[] {-10000, 10000, LOW, HIGH}) {
            CHECK.due("rarer(" + wrong + ")", x.rarer(wrong), -1);
        }
        CHECK.due("they come still", x.joy(), -7);
    }

    private static void dares() {
        CHECK.of(25, "DARE of so many (0 to 9) others: PASSERS who would.");
        StationPiano x = Check.told("tune a 0;" + Check.who("p", "plain", "a", 0, 0, 1, 0) + Check.who("q", "finger", "a", 0, 9, 1, 0)
                + Check.who("r", "earner", "a", 0, 1, 1, 0) + Check.who("s", "drunk", "a", 0, 9, 1, 0) + Check.who("t", "plain", "a", 0, 5, 1, 0));
        int[] want = {31, 29, 29, 29, 29, 13, 13, 13, 13, 9};
        for (int others = 0; others < 10; others++) {
            CHECK.due("dare(" + others + ")", x.dare(others), want[others]);
        }
        CHECK.of(25, "DARE, as bits; NONE: others.");
        for (int wrong : new int[] {-1, 10, LOW, HIGH}) {
            CHECK.due("dare(" + wrong + ")", x.dare(wrong), -1);
        }
    }

    private static void strikes() {
        CHECK.of(26, "A PASSER strikes the KEYS of his TUNE (one that stands there twice is struck twice), a finger only the first three; a drunk the whole row, then once more.");
        StationPiano x = Check.told("tune a 0 11 0 0 11;tune b 4 4;tune c 7 7 7 7 7 7 7 7 7;" + Check.who("p", "plain", "a", 0, 0, 1, 0)
                + Check.who("q", "finger", "a", 0, 0, 1, 0) + Check.who("r", "drunk", "a", 0, 0, 1, 0) + Check.who("s", "earner", "a", 0, 0, 1, 0)
                + Check.who("t", "finger", "b", 0, 0, 1, 0) + Check.who("u", "drunk", "c", 0, 0, 1, 0) + Check.who("v", "finger", "c", 0, 0, 1, 0));
        int[] keys = {0, 11, 4, 7};
        int[][] want = {{3, 2, 0, 0}, {2, 1, 0, 0}, {6, 4, 0, 0}, {3, 2, 0, 0}, {0, 0, 2, 0}, {0, 0, 0, 18}, {0, 0, 0, 3}};
        for (int p = 0; p < 7; p++) {
            for (int i = 0; i < 4; i++) {
                CHECK.due("strikes(" + p + ", " + keys[i] + ")", x.strikes(p, keys[i]), want[p][i]);
            }
        }
        CHECK.of(26, "STRIKES; NONE: others.");
        for (int wrong : new int[] {-1, 7, LOW, HIGH}) {
            CHECK.due("strikes(" + wrong + ", 0)", x.strikes(wrong, 0), -1);
        }
        for (int wrong : new int[] {-1, 12, LOW, HIGH}) {
            CHECK.due("strikes(0, " + wrong + ")", x.strikes(0, wrong), -1);
        }
        CHECK.due("a second of one", Check.told(ONE).strikes(1, 0), -1);
    }

    private static void finds() {
        CHECK.of(27, "FOUND: true; false: others, 8 are FOUND.");
        StationPiano x = Check.told(ONE);
        for (int wrong : new int[] {-1, 12, LOW, HIGH}) {
            CHECK.due("find(" + wrong + ", 0)", x.find(wrong, 0), false);
        }
        for (int wrong : new int[] {-1, 10, LOW, HIGH}) {
            CHECK.due("find(0, " + wrong + ")", x.find(0, wrong), false);
        }
        CHECK.due("what is refused is not found", x.count(11), 0);
        int[][] right = {{0, 0}, {11, 0}, {1, 0}, {2, 0}, {3, 0}, {4, 0}, {5, 9}, {11, 9}};
        for (int i = 0; i < 8; i++) {
            CHECK.due("find " + i, x.find(right[i][0], right[i][1]), true);
            CHECK.due("so many", x.count(11), i + 1);
        }
        CHECK.due("a ninth", x.find(6, 0), false);
        CHECK.due("a ninth, wrong too", x.find(12, 0), false);
        CHECK.due("eight", x.count(11), 8);
        Check.feed(x, ONE);
        x.station();
        CHECK.due("none of another station", x.count(11), 0);
        CHECK.due("there is room", x.find(6, 0), true);
    }

    private static void sets(String what, StationPiano x, int many, int inAll, int inSome) {
        CHECK.due(what + ": how many", x.sets(0), many);
        CHECK.due(what + ": in all", x.sets(1), inAll);
        CHECK.due(what + ": in some", x.sets(2), inSome);
    }

    private static StationPiano found(String rest, int... clues) {
        StationPiano x = Check.told("tune a 0;tune b 1 0;" + Check.who("p", "plain", "a", 1, 0, 2, 0) + Check.who("q", "plain", "b", 5, 0, 9, 0) + rest);
        for (int i = 0; i + 1 < clues.length; i += 2) {
            x.find(clues[i], clues[i + 1]);
        }
        return x;
    }

    private static void setsOf() {
        CHECK.of(28, "SETS, what 0: how many, 1: in all, 2: in some (bits); NONE: others, no set (but 0).");
        sets("nothing found", found(""), 4, 0, 3);
        sets("the empty one alone", found("", 0, 0), 1, 0, 0);
        sets("either", found("", 0, 1), 2, 0, 3);
        sets("both", found("", 0, 2), 1, 3, 3);
        sets("none", found("", 0, 3), 0, -1, -1);
        sets("the second", found("", 0, 1, 1, 1), 1, 2, 2);
        sets("one that can't be with the other", found("", 0, 1, 0, 2), 0, -1, -1);
        sets("a key that nobody strikes", found("", 11, 1), 0, -1, -1);
        sets("the same twice", found("", 0, 2, 0, 2), 1, 3, 3);
        for (int wrong : new int[] {-1, 3, LOW, HIGH}) {
            CHECK.due("sets(" + wrong + ")", found("").sets(wrong), -1);
            CHECK.due("sets(" + wrong + ") of none", found("", 0, 9).sets(wrong), -1);
        }
        CHECK.of(28, "that a KEY without WEAR was worn so much (0 to 9) by some PASSERS, by numbers, one behind another, each once");
        sets("the first wears it alone", found("wears able*not used;", 0, 1), 2, 1, 3);
        sets("the second alone", found("wears able*not used;", 0, 5), 1, 2, 2);
        sets("9 at most", found("wears 5;", 0, 9), 1, 3, 3);
        sets("9 at most, each", found("wears 99;", 0, 9), 3, 0, 3);
        sets("what is worn now is nothing to it", worn(found("", 0, 1), 3), 2, 0, 3);
        CHECK.of(28, "(each KEY's E by its own WEAR then)");
        sets("the other key is at 0 still", found("wears 1+used;", 0, 3, 1, 1), 1, 3, 3);
        StationPiano x = found("wears long;", 0, 9);
        sets("nine minutes", x, 2, 2, 3);
        x.each(8);
        sets("eight: 8, or 9 by both", x, 1, 3, 3);
        StringBuilder seven = new StringBuilder("tune a 0;");
        for (int p = 0; p < 7; p++) {
            seven.append(Check.who("p" + (char) ('a' + p), "plain", "a", p, 0, 1, 5 * p));
        }
        StationPiano all = Check.told(seven.toString());
        sets("all of seven", all, 128, 0, 127);
        all.find(0, 6);
        sets("all but one", all, 7, 0, 127);
        all.find(0, 5);
        sets("then none", all, 0, -1, -1);
        StationPiano fewer = found("");
        sets("all at first", fewer, 4, 0, 3);
        fewer.find(1, 0);
        sets("then without the second", fewer, 2, 0, 1);
        fewer.find(0, 0);
        sets("then the empty one", fewer, 1, 0, 0);
        StationPiano whole = Check.told(seven.toString());
        whole.find(0, 7);
        sets("the whole", whole, 1, 127, 127);
    }

    private static void looks() {
        CHECK.of(29, "the KEY of which nothing is FOUND by whose WEAR the greatest number of those SETS that are alike is the least, if that is less than all; of equal ones the first");
        CHECK.due("key 0: 0, 1, 1, 2; key 1: 0, 0, 1, 1: equal", found("").look(), 0);
        StationPiano one = Check.told("tune a 11;" + Check.who("p", "plain", "a", 1, 0, 1, 0));
        CHECK.due("the last key", one.look(), 11);
        StationPiano two = Check.told("tune a 9;tune b 3 9 9;" + Check.who("p", "plain", "a", 1, 0, 1, 0) + Check.who("q", "plain", "b", 1, 0, 1, 0));
        CHECK.due("key 9: 0, 1, 2, 3, one alike; key 3: two", two.look(), 9);
        StationPiano equal = Check.told("tune a 9;tune b 3;" + Check.who("p", "plain", "a", 1, 0, 1, 0) + Check.who("q", "plain", "b", 1, 0, 1, 0));
        CHECK.due("equal ones", equal.look(), 3);
        equal.find(3, 1);
        CHECK.due("the other one then", equal.look(), 9);
        StationPiano often = found("");
        for (int i = 0; i < 9; i++) {
            CHECK.due("asked again", often.look(), 0);
        }
        StationPiano sure = Check.told("tune a 0 5;tune b 3;" + Check.who("p", "plain", "a", 1, 0, 1, 0) + Check.who("q", "plain", "b", 1, 0, 1, 0)
                + Check.who("r", "plain", "b", 1, 0, 1, 0));
        sure.find(0, 1);
        CHECK.due("key 5 is 1 in all four, key 3 is 0, 1, 1, 2", sure.look(), 3);
        StationPiano worn = Check.told("tune a 2 7 7;tune b 7;" + Check.who("p", "plain", "a", 1, 0, 1, 0) + Check.who("q", "plain", "b", 1, 0, 1, 0)
                + "wears 9*(1<used)+(used<2);");
        CHECK.due("key 7: 0, 1, 2, 9; key 2: two and two", worn.look(), 7);
        CHECK.of(29, "LOOK; NONE: none parts them.");
        equal.find(9, 0);
        CHECK.due("one set alone", equal.look(), -1);
        equal.find(9, 1);
        CHECK.due("no set", equal.look(), -1);
        CHECK.due("nothing wears", found("wears 0;").look(), -1);
        StationPiano alike = Check.told("tune a 4;" + Check.who("p", "plain", "a", 1, 0, 1, 0) + Check.who("q", "plain", "a", 1, 0, 1, 0));
        alike.find(4, 1);
        CHECK.due("two sets that no key parts", alike.sets(0), 2);
        CHECK.due("no key", alike.look(), -1);
        CHECK.due("nobody", new StationPiano().look(), -1);
    }

    private static void shares() {
        CHECK.of(30, "each PASSER pays, of the price, by how often he strikes KEYS, of all together: in thousandths, cut.");
        CHECK.due("one pays all", Check.told(ONE + "price 999;").share(0), 999000);
        CHECK.due("nothing", Check.told(ONE + "price 0;").share(0), 0);
        String three = "tune a 0;tune b 1 2 3 4 5 6 7 8 9;" + Check.who("p", "plain", "a", 1, 0, 1, 0) + Check.who("q", "drunk", "a", 1, 0, 1, 0)
                + Check.who("r", "finger", "b", 1, 0, 1, 0) + Check.who("s", "drunk", "b", 1, 0, 1, 0) + "price ";
        int[] strikes = {1, 2, 3, 18};
        for (int price : new int[] {0, 1, 7, 60, 999}) {
            StationPiano x = Check.told(three + price + ";");
            for (int p = 0; p < 4; p++) {
                CHECK.due("share of " + p + " in " + price, x.share(p), price * 1000 * strikes[p] / 24);
            }
        }
        CHECK.due("41.666.. of 1000", Check.told(three + "1;").share(0), 41);
        StationPiano again = Check.told(three + "7;");
        for (int i = 0; i < 3; i++) {
            Check.feed(again, ONE + "price 7;");
            again.station();
            CHECK.due("none of an older station pays", again.share(0), 7000);
            CHECK.due("none of an older station", again.share(1), -1);
        }
        CHECK.of(30, "SHARES; NONE: others.");
        for (int wrong : new int[] {-1, 1, 7, LOW, HIGH}) {
            CHECK.due("share(" + wrong + ")", Check.told(ONE).share(wrong), -1);
        }
    }

    private static void rests() {
        CHECK.of(31, "both go ahead: each loses so much (0 to 9); one does: he gets so much (0 to 9), the other one so much (0 to 9); both let: nothing");
        StationPiano x = new StationPiano();
        int[][] rows = {{0, 0, 0, 4, 0, 1, 2, 3}, {0, 1, 0, 3, 1, 2, 3}, {1, 0, 0, 3, 0, 1, 2}, {0, 0, 1, 3, 0, 1, 2}, {1, 1, 0, 2, 1, 2},
            {0, 1, 1, 2, 1, 2}, {9, 9, 9, 2, 1, 2}, {9, 0, 9, 3, 0, 1, 2}, {0, 9, 0, 3, 1, 2, 3}, {0, 9, 9, 2, 1, 2}};
        for (int[] row : rows) {
            CHECK.due("how many of " + row[0] + " " + row[1] + " " + row[2], x.rests(row[0], row[1], row[2], -1), row[3]);
            for (int i = 0; i < row[3]; i++) {
                CHECK.due("the " + i + ". of " + row[0] + " " + row[1] + " " + row[2], x.rests(row[0], row[1], row[2], i), row[4 + i]);
            }
            CHECK.none("one more", () -> x.rests(row[0], row[1], row[2], row[3]));
        }
        CHECK.of(31, "NoSuchElementException: others, none such.");
        for (int wrong : new int[] {-1, 10, LOW, HIGH}) {
            CHECK.none("loses " + wrong, () -> x.rests(wrong, 0, 0, -1));
            CHECK.none("ahead " + wrong, () -> x.rests(0, wrong, 0, -1));
            CHECK.none("lets " + wrong, () -> x.rests(0, 0, wrong, -1));
        }
        for (int wrong : new int[] {-2, 4, LOW, HIGH}) {
            CHECK.none("what " + wrong, () -> x.rests(0, 0, 0, wrong));
        }
    }

    private static void rules() {
        CHECK.of(32, "RULE: JOY of so many DAYS (1 to 30), one behind another, by so many minutes each (1 to 30), all else as now.");
        StationPiano x = player("plain", 30, 0, "joys 9-worn;each 2;");
        CHECK.due("one day, one minute", x.rule(1, 1), 8);
        CHECK.due("one day, thirty", x.rule(1, 30), 240);
        CHECK.due("nine days: 8 to 0", x.rule(9, 1), 36);
        CHECK.due("thirty days", x.rule(30, 1), 36);
        CHECK.due("thirty days of thirty", x.rule(30, 30), 1080);
        worn(x, 3);
        x.open(0, 20);
        CHECK.due("as now", x.rule(2, 30), 20 * 5 + 20 * 4);
        CHECK.due("the day stays", x.count(7), 3);
        CHECK.due("each stays", x.count(3), 2);
        CHECK.due("wear stays", x.key(0), 3);
        CHECK.due("long by the rule's minutes", player("plain", 30, 0, "joys worn;wears long;").rule(1, 4), 16);
        CHECK.of(32, "RULE. NoSuchElementException: others.");
        for (int wrong : new int[] {0, 31, -1, LOW, HIGH}) {
            CHECK.none("rule(" + wrong + ", 1)", () -> x.rule(wrong, 1));
            CHECK.none("rule(1, " + wrong + ")", () -> x.rule(1, wrong));
        }
    }

    /** The draws by the document's words, in numbers without an edge. */
    private static int[] draws(int seed, int many) {
        int[] drawn = new int[many];
        BigInteger g = BigInteger.valueOf(seed);
        for (int i = 0; i < many; i++) {
            g = g.multiply(BigInteger.valueOf(1103515245)).add(BigInteger.valueOf(12345)).mod(BigInteger.valueOf(2147483648L));
            drawn[i] = g.divide(BigInteger.valueOf(65536)).intValueExact();
        }
        return drawn;
    }

    private static void monthDraws() {
        CHECK.of(33, "for each PASSER a DRAW below 60: he comes at that minute on that DAY");
        CHECK.due("the first draws of 1", draws(1, 3)[2], 10113);
        for (int seed : new int[] {0, 1, 2, 77, 4096, 9998, 9999}) {
            int[] drawn = draws(seed, 60);
            int comes = drawn[0] % 60;
            String one = "tune a 0;" + Check.who("p", "plain", "a", 1, 0, 1, 3) + "joys 7;waits 0;wears 0;";
            CHECK.due("he comes in that minute", Check.told(one + "open " + comes + " to " + (comes + 1) + ";").months(seed, 1, 1), 1);
            if (comes > 0) {
                CHECK.due("not ahead of it", Check.told(one + "open 0 to " + comes + ";").months(seed, 1, 1), 0);
            }
            if (comes < 59) {
                CHECK.due("nor behind it", Check.told(one + "open " + (comes + 1) + " to 60;").months(seed, 1, 1), 0);
            }
            int early = 0;
            for (int day = 0; day < 60; day++) {
                early += drawn[day] % 60 < 20 ? 1 : 0;
            }
            StationPiano x = Check.told(one + "open 0 to 20;");
            CHECK.due("how often in sixty days", x.months(seed, 60, 1), early);
            CHECK.due("joy of sixty days", x.months(seed, 60, 0), 7 * early);
            CHECK.due("nothing paid", x.months(seed, 60, 2), 0);
            CHECK.due("he comes as told", x.passer(0, 5), 3);
            CHECK.due("on the day that comes too", x.begins(0), 3);
        }
    }

    /** What is paid in so many days at 5 a tuning, when one passer strikes these keys each day by so much. */
    private static int paid(int seed, int days, int keys, int wears) {
        StringBuilder text = new StringBuilder("tune a");
        for (int k = 0; k < keys; k++) {
            text.append(' ').append(k);
        }
        return Check.told(text + ";" + Check.who("p", "plain", "a", 1, 0, 1, 0) + "price 5;wears " + wears + ";").months(seed, days, 2);
    }

    private static void monthTunings() {
        CHECK.of(33, "if 3 KEYS or more are GONE or worn above 5, a DRAW below 4: 0: MEND");
        int mended = 0;
        for (int seed = 0; seed < 100; seed++) {
            int[] drawn = draws(seed, 4);
            int first = drawn[1] % 4 == 0 ? 5 : 0;
            mended += first;
            CHECK.due("three worn 6, seed " + seed, paid(seed, 1, 3, 6), first);
            CHECK.due("nine worn 6, seed " + seed, paid(seed, 1, 9, 6), first);
            CHECK.due("three gone, seed " + seed, paid(seed, 1, 3, 9), first);
            CHECK.due("two worn 6, seed " + seed, paid(seed, 1, 2, 6), 0);
            CHECK.due("two gone, seed " + seed, paid(seed, 9, 2, 9), 0);
            CHECK.due("three worn 5, seed " + seed, paid(seed, 1, 3, 5), 0);
            CHECK.due("three worn 5, then 9, seed " + seed, paid(seed, 2, 3, 5), drawn[2] % 4 == 0 ? 5 : 0);
            int second = first + (drawn[3] % 4 == 0 ? 5 : 0);
            CHECK.due("three gone stay gone, seed " + seed, paid(seed, 2, 3, 9), second);
        }
        CHECK.due("some are mended", mended > 0, true);
        CHECK.due("not all", mended < 500, true);
    }

    private static void monthBounds() {
        CHECK.of(33, "MONTHS by a SEED of so many DAYS (1 to 60), from now on (all is as ahead then)");
        StationPiano x = Check.told("tune a 0 1 2;" + Check.who("p", "plain", "a", 1, 0, 1, 0) + "price 5;joys worn;wears 3;");
        CHECK.due("three keys of 3", x.months(0, 1, 0), 9);
        x.day();
        x.mend();
        x.day();
        CHECK.due("from now on", x.months(0, 1, 0), 18);
        int[] counts = new int[14];
        for (int i = 0; i < 14; i++) {
            counts[i] = x.count(i);
        }
        int paid = x.months(9999, 60, 2);
        CHECK.due("sixty days, somebody plays on each", x.months(9999, 60, 1), 60);
        StationPiano before = Check.told(ONE + "wears 0;");
        before.mend();
        CHECK.due("what was paid before is not in it", before.months(1, 60, 2), 0);
        CHECK.due("it is paid still", before.count(8), 60);
        for (int i = 0; i < 14; i++) {
            CHECK.due("all is as ahead: count(" + i + ")", x.count(i), counts[i]);
        }
        CHECK.due("wear is as ahead", x.key(0), 3);
        x.mend();
        x.undo();
        CHECK.due("paid by these alone", x.months(9999, 60, 2), paid);
        CHECK.of(33, "MONTHS by a SEED (0 to 9999), what 0: JOY, 1: how often, 2: paid. NoSuchElementException: others.");
        for (int wrong : new int[] {-1, 10000, LOW, HIGH}) {
            CHECK.none("seed " + wrong, () -> x.months(wrong, 1, 0));
        }
        for (int wrong : new int[] {0, 61, -1, LOW, HIGH}) {
            CHECK.none("days " + wrong, () -> x.months(0, wrong, 0));
        }
        for (int wrong : new int[] {-1, 3, LOW, HIGH}) {
            CHECK.none("what " + wrong, () -> x.months(0, 1, wrong));
        }
    }

    public static void main(String[] args) {
        bests();
        hours();
        whens();
        lasts();
        withouts();
        rarers();
        dares();
        strikes();
        finds();
        setsOf();
        looks();
        shares();
        rests();
        rules();
        monthDraws();
        monthTunings();
        monthBounds();
        CHECK.namesAll(19, 33);
        CHECK.end("BoundaryAskTest");
    }
}
