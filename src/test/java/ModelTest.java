import java.util.NoSuchElementException;
import java.util.Random;

/** Many told stations, told wrongly too, and long rows of calls: the program and the model must answer alike. */
public final class ModelTest {
    private static final String[] NAMES = {"a", "ab", "elise", "scale", "able", "long", "used", "others", "zzzzzzzz", "q", "mo",
        "dee", "same", "worn"};
    private static final String[] KINDS = {"plain", "finger", "drunk", "earner"};
    private static final String[] ODD = {"tune", "passer", "plays", "skill", "shy", "stays", "comes", "waits", "each", "open", "to",
        "price", "joys", "wears", "day", "mend", "plain", "not", "and", "or", "able", "worn", "used", "a", "elise", "toolongname",
        "0", "9", "10", "12", "30", "31", "59", "60", "61", "999", "1000", "9999", "10000", "(", ")", "<", "=", "+", "-", "*", ";",
        ">", "A", "!", "~", ""};
    private static Random random;
    private static int wrong = 0;

    private static String pick(String[] all) {
        return all[random.nextInt(all.length)];
    }

    /** Mostly 0 to most; now and then one beyond it. */
    private static int near(int most) {
        return random.nextInt(400) == 0 ? most + 1 : random.nextInt(most + 1);
    }

    private static String law(boolean joys, int within) {
        int sort = random.nextInt(within > 5 ? 3 : 12);
        String[] facts = joys ? new String[] {"able", "worn", "others", "same"} : new String[] {"able", "used", "long"};
        switch (sort) {
            case 0: return Integer.toString(random.nextInt(random.nextInt(20) == 0 ? 10000 : 12));
            case 1:
            case 2:
            case 3: return pick(facts);
            case 4: return "not " + law(joys, within + 1);
            case 5:
            case 6: return "(" + law(joys, within + 1) + ")";
            default: return law(joys, within + 1) + " "
                + pick(new String[] {"+", "-", "*", "<", "=", "and", "or", "+", "-", "*"}) + " " + law(joys, within + 1);
        }
    }

    private static String station() {
        StringBuilder text = new StringBuilder();
        int tunes = random.nextInt(40) == 0 ? 6 : random.nextInt(6);
        int passers = random.nextInt(40) == 0 ? 8 : random.nextInt(8);
        String[] known = new String[tunes];
        for (int t = 0; t < tunes; t++) {
            known[t] = NAMES[t];
            text.append("tune ").append(known[t]);
            int keys = random.nextInt(80) == 0 ? 10 : 1 + random.nextInt(9);
            for (int i = 0; i < keys; i++) {
                text.append(' ').append(near(11));
            }
            text.append(";");
        }
        for (int p = 0; p < passers && tunes > 0; p++) {
            text.append("passer ").append(random.nextInt(40) == 0 ? pick(NAMES) : "p" + (char) ('a' + p)).append(' ').append(pick(KINDS))
                .append(" plays ").append(random.nextInt(60) == 0 ? pick(NAMES) : pick(known)).append(" skill ").append(near(9))
                .append(" shy ").append(near(9)).append(" stays ").append(1 + near(random.nextBoolean() ? 29 : 7))
                .append(" comes ").append(random.nextInt(4) == 0 ? near(59) : random.nextInt(12)).append(";\n");
        }
        optional(text, "waits " + near(random.nextBoolean() ? 59 : 12));
        optional(text, "each " + (1 + near(29)));
        int from = random.nextInt(random.nextBoolean() ? 60 : 6);
        optional(text, "open " + from + " to " + (from + 1 + random.nextInt(60 - from)));
        optional(text, "price " + near(random.nextBoolean() ? 999 : 30));
        optional(text, "joys " + law(true, 1 + random.nextInt(5)));
        optional(text, "wears " + law(false, 1 + random.nextInt(5)));
        return text.toString();
    }

    private static void optional(StringBuilder text, String line) {
        if (random.nextInt(3) != 0) {
            text.append(line).append(random.nextInt(5) == 0 ? " ;\n" : ";");
        }
    }

    private static String week() {
        StringBuilder text = new StringBuilder();
        int lines = random.nextInt(30) == 0 ? 38 + random.nextInt(5) : random.nextInt(12);
        for (int i = 0; i < lines; i++) {
            int from = random.nextInt(60);
            text.append(pick(new String[] {"day;", "day ;", "mend;", "each " + (1 + near(29)) + ";",
                "open " + from + " to " + (from + 1 + random.nextInt(60 - from)) + ";"}));
        }
        return text.toString();
    }

    private static String spoilt(String text) {
        StringBuilder all = new StringBuilder(text);
        for (int times = random.nextInt(3); times >= 0; times--) {
            int at = random.nextInt(all.length() + 1);
            switch (random.nextInt(4)) {
                case 0: all.insert(at, pick(ODD)); break;
                case 1: all.insert(at, " " + pick(ODD) + " "); break;
                case 2: all.delete(at, Math.min(all.length(), at + 1 + random.nextInt(4))); break;
                default: all.setLength(at); break;
            }
        }
        return all.toString();
    }

    private static void feed(StationPiano x, Model y, String text) {
        for (int i = 0; i < text.length(); i += 24) {
            long[] w = new long[3];
            for (int j = 0; j < 24; j++) {
                long sign = i + j < text.length() ? text.charAt(i + j) : 0;
                w[j / 8] |= sign << 56 - j % 8 * 8;
            }
            same("feed", x.feed(w[0], w[1], w[2]), y.feed(w[0], w[1], w[2]));
        }
    }

    private static void same(String call, long got, long want) {
        if (got != want) {
            wrong++;
            if (wrong < 30) {
                System.out.println(call + " answered " + got + ", the model " + want);
            }
        }
    }

    private static final long THROWN = Long.MIN_VALUE;

    private static long ask(StationPiano x, int call, int a, int b, int c, int d) {
        try {
            switch (call) {
                case 0: return x.judged(a);
                case 1: return x.best(a);
                case 2: return x.when(a, b);
                case 3: return x.without(a);
                case 4: return x.rests(a, b, c, d);
                case 5: return x.rule(a, b);
                default: return x.months(a, b, c);
            }
        } catch (NoSuchElementException e) {
            return THROWN;
        }
    }

    private static long ask(Model y, int call, int a, int b, int c, int d) {
        try {
            switch (call) {
                case 0: return y.judged(a);
                case 1: return y.best(a);
                case 2: return y.when(a, b);
                case 3: return y.without(a);
                case 4: return y.rests(a, b, c, d);
                case 5: return y.rule(a, b);
                default: return y.months(a, b, c);
            }
        } catch (NoSuchElementException e) {
            return THROWN;
        }
    }

    /** From one below what may be to one above it, and seldom something wild. */
    private static int about(int least, int most) {
        if (random.nextInt(50) == 0) {
            return random.nextBoolean() ? random.nextInt() : random.nextBoolean() ? Integer.MIN_VALUE : Integer.MAX_VALUE;
        }
        return random.nextInt(8) == 0 ? least - 1 + random.nextInt(most - least + 3) : least + random.nextInt(most - least + 1);
    }

    private static void change(StationPiano x, Model y) {
        int a;
        int b;
        switch (random.nextInt(12)) {
            case 0:
            case 1:
            case 2: same("day", x.day(), y.day()); break;
            case 3: same("mend", x.mend(), y.mend()); break;
            case 4: a = about(1, 30); same("each " + a, x.each(a) ? 1 : 0, y.each(a) ? 1 : 0); break;
            case 5: a = about(0, 59); b = about(1, 60);
                same("open " + a + " " + b, x.open(a, b) ? 1 : 0, y.open(a, b) ? 1 : 0); break;
            case 6: same("undo", x.undo() ? 1 : 0, y.undo() ? 1 : 0); break;
            case 7: a = about(0, 11); b = random.nextInt(3) == 0 ? about(0, 9) : random.nextInt(3);
                same("find", x.find(a, b) ? 1 : 0, y.find(a, b) ? 1 : 0); break;
            case 8:
            case 9: a = about(0, 3); boolean back = random.nextInt(3) == 0;
                same("mark", x.mark(a, back) ? 1 : 0, y.mark(a, back) ? 1 : 0); break;
            default: String text = random.nextInt(3) == 0 ? spoilt(week()) : week();
                feed(x, y, text);
                same("week of " + text, x.week(), y.week()); break;
        }
    }

    private static void question(StationPiano x, Model y) {
        int a;
        int b;
        switch (random.nextInt(17)) {
            case 0: a = about(0, 6); b = about(0, 5); same("passer", x.passer(a, b), y.passer(a, b)); break;
            case 1: a = about(0, 4); b = about(0, 8); same("tune", x.tune(a, b), y.tune(a, b)); break;
            case 2: a = about(0, 11); same("key", x.key(a), y.key(a)); break;
            case 3: a = about(0, 6); same("begins", x.begins(a), y.begins(a)); break;
            case 4: a = about(0, 6); same("ends", x.ends(a), y.ends(a)); break;
            case 5: a = about(0, 59); same("now", x.now(a), y.now(a)); break;
            case 6: same("away", x.away(), y.away()); same("joy", x.joy(), y.joy()); break;
            case 7: a = about(1, 60); same("hours " + a, x.hours(a), y.hours(a)); break;
            case 8: a = about(0, 11); same("lasts", x.lasts(a), y.lasts(a)); break;
            case 9: a = random.nextInt(6) == 0 ? about(-9999, 9999) : y.joy() + random.nextInt(40) - 5;
                same("rarer", x.rarer(a), y.rarer(a)); break;
            case 10: a = about(0, 9); same("dare", x.dare(a), y.dare(a)); break;
            case 11: a = about(0, 6); b = about(0, 11); same("strikes", x.strikes(a, b), y.strikes(a, b)); break;
            case 12: a = about(0, 2); same("sets", x.sets(a), y.sets(a)); break;
            case 13: same("look", x.look(), y.look()); break;
            case 14: a = about(0, 6); same("share", x.share(a), y.share(a)); break;
            case 15: throwing(x, y); break;
            default: for (int i = -2; i < 16; i++) {
                same("count " + i, x.count(i), y.count(i));
            } break;
        }
    }

    private static void throwing(StationPiano x, Model y) {
        int call = random.nextInt(7);
        int a = 0;
        int b = 0;
        int c = 0;
        int d = 0;
        switch (call) {
            case 0: a = about(0, 2); break;
            case 1: a = about(0, 1); break;
            case 2: a = about(1, 9); b = about(0, 1); break;
            case 3: a = about(0, 6); break;
            case 4: a = about(0, 9); b = about(0, 9); c = about(0, 9); d = about(-1, 3); break;
            case 5: a = about(1, 30); b = about(1, 30); break;
            default: a = about(0, 9999); b = about(1, 60); c = about(0, 2); break;
        }
        same("call " + call + " by " + a + " " + b + " " + c + " " + d, ask(x, call, a, b, c, d), ask(y, call, a, b, c, d));
    }

    public static void main(String[] args) {
        int rounds = args.length > 0 ? Integer.parseInt(args[0]) : 1500;
        long seed = args.length > 1 ? Long.parseLong(args[1]) : 1;
        int right = 0;
        int faults = 0;
        for (int round = 0; round < rounds; round++) {
            random = new Random(seed * 1000003 + round);
            StationPiano x = new StationPiano();
            Model y = new Model();
            int told = 1 + random.nextInt(3);
            for (int i = 0; i < told; i++) {
                String text = random.nextInt(3) == 0 ? spoilt(station()) : station();
                feed(x, y, text);
                int answer = y.station();
                same("station of " + text, x.station(), answer);
                if (answer == 0) {
                    right++;
                } else {
                    faults++;
                }
                for (int calls = 0; calls < 60; calls++) {
                    if (random.nextInt(3) == 0) {
                        change(x, y);
                    } else {
                        question(x, y);
                    }
                }
            }
        }
        System.out.println(right + " stations, " + faults + " faults, " + wrong + " answers unlike the model's");
        if (wrong != 0) {
            System.exit(1);
        }
    }
}
