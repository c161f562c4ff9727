import java.util.ArrayDeque;
import java.util.ArrayList;
import java.util.Arrays;
import java.util.HashMap;
import java.util.LinkedHashMap;
import java.util.List;
import java.util.Map;
import java.util.NoSuchElementException;
import java.util.Set;
import java.util.TreeMap;

/**
 * The document once more, written apart from the program and as slowly as it likes: ModelTest holds the two against
 * each other. It reads the whole text into tokens first and keeps laws as trees.
 */
final class Model {
    private static final int NONE = -1;
    private static final Set<String> KEPT = Set.of("tune", "passer", "plays", "skill", "shy", "stays", "comes", "waits",
            "each", "open", "to", "price", "joys", "wears", "day", "mend", "plain", "finger", "drunk", "earner", "not",
            "and", "or");
    private static final List<String> KINDS = List.of("plain", "finger", "drunk", "earner");

    private static final class Fault extends RuntimeException {
        private static final long serialVersionUID = 1L;
        final int code;

        Fault(int kind, int place) {
            super(null, null, false, false);
            code = kind + 16 * place;
        }
    }

    private record Token(char sort, String text, int place) { }

    private interface Tree {
        int of(Map<String, Integer> facts);
    }

    private record Guest(String name, String kind, String tune, int skill, int shy, int stays, int comes) { }

    private record Line(String word, int first, int second) { }

    private record Clue(int key, int wear) { }

    private static final class Place {
        final LinkedHashMap<String, List<Integer>> tunes = new LinkedHashMap<>();
        final List<Guest> guests = new ArrayList<>();
        final Map<String, Integer> numbers = new HashMap<>(Map.of("waits", 5, "each", 30, "price", 60));
        int from = 0;
        int to = 60;
        Tree joys;
        Tree wears;
    }

    private record Now(int day, List<Integer> wear, int each, int from, int to, int paid) { }

    private record Laid(Now now, List<Line> week, List<Clue> clues) { }

    private static final class Passed {
        int joy;
        List<Integer> wear;
        final Map<Integer, Integer> begins = new TreeMap<>();
        final Map<Integer, Integer> ends = new TreeMap<>();
    }

    private final StringBuilder tape = new StringBuilder();
    private Place place = new Place();
    private Now now = new Now(0, zeros(), 30, 0, 60, 0);
    private List<Line> week = List.of();
    private List<Clue> clues = List.of();
    private final ArrayDeque<Now> undos = new ArrayDeque<>();
    private final Laid[] marks = new Laid[4];

    private List<Token> tokens;
    private int at;

    private static List<Integer> zeros() {
        return List.of(0, 0, 0, 0, 0, 0, 0, 0, 0, 0, 0, 0);
    }

    int feed(long a, long b, long c) {
        for (byte x : java.nio.ByteBuffer.allocate(24).putLong(a).putLong(b).putLong(c).array()) {
            if ((x == 10 || x >= 32 && x < 127) && tape.length() < 1000) {
                tape.append((char) x);
            }
        }
        return tape.length();
    }

    private void split() {
        String text = tape.toString();
        tape.setLength(0);
        tokens = new ArrayList<>();
        at = 0;
        java.util.regex.Matcher m = java.util.regex.Pattern.compile("[a-z]+|[0-9]+|[^ \n]").matcher(text);
        while (m.find()) {
            String t = m.group();
            char c = t.charAt(0);
            char sort = 'x';
            if (c >= 'a' && c <= 'z') {
                sort = t.length() <= 8 ? 'w' : 'x';
            } else if (c >= '0' && c <= '9') {
                sort = t.length() <= 4 ? 'n' : 'x';
            } else if ("()<=+-*;".indexOf(c) >= 0) {
                sort = 's';
            }
            tokens.add(new Token(sort, t, m.start()));
        }
        tokens.add(new Token('e', "", text.length()));
    }

    private Token peek() {
        return tokens.get(at);
    }

    private boolean sees(String text) {
        return peek().sort != 'x' && peek().sort != 'e' && peek().text.equals(text);
    }

    private void need(String text) {
        if (!sees(text)) {
            throw new Fault(1, peek().place);
        }
        at++;
    }

    private int number(int least, int most) {
        Token t = peek();
        if (t.sort != 'n') {
            throw new Fault(1, t.place);
        }
        int n = Integer.parseInt(t.text);
        if (n < least || n > most) {
            throw new Fault(4, t.place);
        }
        at++;
        return n;
    }

    private int number(String word, int least, int most) {
        need(word);
        return number(least, most);
    }

    private String name() {
        Token t = peek();
        if (t.sort != 'w' || KEPT.contains(t.text)) {
            throw new Fault(1, t.place);
        }
        at++;
        return t.text;
    }

    private String newName(Place p) {
        int where = peek().place;
        String n = name();
        if (p.tunes.containsKey(n) || p.guests.stream().anyMatch(g -> g.name.equals(n))) {
            throw new Fault(3, where);
        }
        return n;
    }

    int station() {
        split();
        Place p = new Place();
        try {
            List<String> once = new ArrayList<>();
            while (peek().sort != 'e') {
                stationLine(p, once);
                need(";");
            }
        } catch (Fault f) {
            return f.code;
        }
        place = p;
        now = start();
        week = List.of();
        clues = List.of();
        undos.clear();
        Arrays.fill(marks, null);
        return 0;
    }

    private Now start() {
        return new Now(0, zeros(), place.numbers.get("each"), place.from, place.to, 0);
    }

    private void stationLine(Place p, List<String> once) {
        Token first = peek();
        if (first.sort != 'w') {
            throw new Fault(1, first.place);
        }
        String word = first.text;
        at++;
        if (word.equals("tune")) {
            if (p.tunes.size() == 5) {
                throw new Fault(5, first.place);
            }
            tune(p);
            return;
        }
        if (word.equals("passer")) {
            if (p.guests.size() == 7) {
                throw new Fault(5, first.place);
            }
            guest(p);
            return;
        }
        if (!List.of("waits", "each", "open", "price", "joys", "wears").contains(word)) {
            throw new Fault(1, first.place);
        }
        if (once.contains(word)) {
            throw new Fault(3, first.place);
        }
        once.add(word);
        switch (word) {
            case "waits" -> p.numbers.put(word, number(0, 59));
            case "each" -> p.numbers.put(word, number(1, 30));
            case "price" -> p.numbers.put(word, number(0, 999));
            case "open" -> {
                p.from = number(0, 59);
                p.to = number("to", p.from + 1, 60);
            }
            case "joys" -> p.joys = law(List.of("able", "worn", "others", "same"), 0);
            default -> p.wears = law(List.of("able", "used", "long"), 0);
        }
    }

    private void tune(Place p) {
        String n = newName(p);
        List<Integer> keys = new ArrayList<>();
        do {
            int where = peek().place;
            int key = number(0, 11);
            if (keys.size() == 9) {
                throw new Fault(5, where);
            }
            keys.add(key);
        } while (peek().sort == 'n' || peek().sort == 'x');
        p.tunes.put(n, keys);
    }

    private void guest(Place p) {
        String n = newName(p);
        Token kind = peek();
        if (kind.sort != 'w' || !KINDS.contains(kind.text)) {
            throw new Fault(1, kind.place);
        }
        at++;
        need("plays");
        int where = peek().place;
        String tune = name();
        if (!p.tunes.containsKey(tune)) {
            throw new Fault(2, where);
        }
        int skill = number("skill", 0, 9);
        int shy = number("shy", 0, 9);
        int stays = number("stays", 1, 30);
        int comes = number("comes", 0, 59);
        p.guests.add(new Guest(n, kind.text, tune, skill, shy, stays, comes));
    }

    private Tree law(List<String> facts, int within) {
        Tree left = test(facts, within);
        while (sees("and") || sees("or")) {
            boolean and = sees("and");
            at++;
            Tree l = left;
            Tree r = test(facts, within);
            left = and ? f -> l.of(f) != 0 && r.of(f) != 0 ? 1 : 0 : f -> l.of(f) != 0 || r.of(f) != 0 ? 1 : 0;
        }
        return left;
    }

    private Tree test(List<String> facts, int within) {
        Tree l = sum(facts, within);
        if (!sees("<") && !sees("=")) {
            return l;
        }
        boolean less = sees("<");
        at++;
        Tree r = sum(facts, within);
        return less ? f -> l.of(f) < r.of(f) ? 1 : 0 : f -> l.of(f) == r.of(f) ? 1 : 0;
    }

    private Tree sum(List<String> facts, int within) {
        Tree left = product(facts, within);
        while (sees("+") || sees("-")) {
            int sign = sees("+") ? 1 : -1;
            at++;
            Tree l = left;
            Tree r = product(facts, within);
            left = f -> l.of(f) + sign * r.of(f);
        }
        return left;
    }

    private Tree product(List<String> facts, int within) {
        Tree left = part(facts, within);
        while (sees("*")) {
            at++;
            Tree l = left;
            Tree r = part(facts, within);
            left = f -> l.of(f) * r.of(f);
        }
        return left;
    }

    private Tree part(List<String> facts, int within) {
        Token t = peek();
        boolean fact = t.sort == 'w' && facts.contains(t.text);
        if (t.sort != 'n' && !fact && !sees("not") && !sees("(")) {
            throw new Fault(1, t.place);
        }
        if (within == 5) {
            throw new Fault(5, t.place);
        }
        at++;
        if (fact) {
            return f -> f.get(t.text);
        }
        if (t.sort == 'n') {
            int n = Integer.parseInt(t.text);
            return f -> n;
        }
        if (t.text.equals("not")) {
            Tree inner = part(facts, within + 1);
            return f -> inner.of(f) == 0 ? 1 : 0;
        }
        Tree inner = law(facts, within + 1);
        need(")");
        return inner;
    }

    int week() {
        split();
        List<Line> lines = new ArrayList<>();
        try {
            while (peek().sort != 'e') {
                Token t = peek();
                if (t.sort != 'w' || !List.of("day", "mend", "each", "open").contains(t.text)) {
                    throw new Fault(1, t.place);
                }
                if (lines.size() == 40) {
                    throw new Fault(5, t.place);
                }
                at++;
                int first = t.text.equals("each") ? number(1, 30) : t.text.equals("open") ? number(0, 59) : 0;
                int second = t.text.equals("open") ? number("to", first + 1, 60) : 0;
                need(";");
                lines.add(new Line(t.text, first, second));
            }
        } catch (Fault f) {
            return f.code;
        }
        week = lines;
        return 0;
    }

    private List<Integer> struck(Guest g) {
        List<Integer> row = place.tunes.get(g.tune);
        if (g.kind.equals("finger")) {
            return row.subList(0, Math.min(3, row.size()));
        }
        List<Integer> all = new ArrayList<>(row);
        if (g.kind.equals("drunk")) {
            all.addAll(row);
        }
        return all;
    }

    private static int minutesOf(Guest g, int each) {
        return g.kind.equals("earner") || g.stays < each ? g.stays : each;
    }

    private static boolean dares(Guest g, int others) {
        return g.kind.equals("drunk") || g.shy + others < 10;
    }

    private void play(Guest g, int each, List<Integer> wear) {
        for (int k : struck(g)) {
            int more = 1;
            if (place.wears != null) {
                more = place.wears.of(Map.of("able", g.skill, "used", wear.get(k), "long", minutesOf(g, each)));
                more = more < 0 ? 0 : more > 9 ? 9 : more;
            }
            wear.set(k, Math.min(9, wear.get(k) + more));
        }
    }

    private Passed pass(Now n, int absent, int[] comes) {
        Passed day = new Passed();
        List<Integer> wear = new ArrayList<>(n.wear);
        List<Integer> line = new ArrayList<>();
        List<String> begun = new ArrayList<>();
        int player = NONE;
        int same = 0;
        for (int m = 0; m < 60; m++) {
            final int minute = m;
            for (int p = 0; p < place.guests.size(); p++) {
                if (comes[p] == m && (absent & 1 << p) == 0) {
                    line.add(p);
                }
            }
            boolean open = m >= n.from && m < n.to;
            if (player != NONE) {
                int played = m - day.begins.get(player);
                if (!open || played == minutesOf(place.guests.get(player), n.each)) {
                    day.ends.put(player, m);
                    player = NONE;
                }
            }
            line.removeIf(p -> minute - comes[p] > place.numbers.get("waits"));
            if (player == NONE && open) {
                for (int p : line) {
                    if (dares(place.guests.get(p), line.size() - 1)) {
                        player = p;
                        break;
                    }
                }
                if (player != NONE) {
                    Guest g = place.guests.get(player);
                    line.remove(Integer.valueOf(player));
                    day.begins.put(player, m);
                    play(g, n.each, wear);
                    same = (int) begun.stream().filter(g.tune::equals).count();
                    begun.add(g.tune);
                }
            }
            if (player != NONE) {
                Guest g = place.guests.get(player);
                int worn = struck(g).stream().mapToInt(wear::get).sum();
                int joy = place.joys == null ? g.skill - worn - same
                        : place.joys.of(Map.of("able", g.skill, "worn", worn, "others", line.size(), "same", same));
                day.joy += joy < -99 ? -99 : joy > 99 ? 99 : joy;
            }
        }
        if (player != NONE) {
            day.ends.put(player, 60);
        }
        day.wear = wear;
        return day;
    }

    private int[] usual() {
        return place.guests.stream().mapToInt(Guest::comes).toArray();
    }

    private Passed pass(Now n, int absent) {
        return pass(n, absent, usual());
    }

    private static Now worn(Now n, List<Integer> wear) {
        return new Now(n.day, wear, n.each, n.from, n.to, n.paid);
    }

    private static Now each(Now n, int each) {
        return new Now(n.day, n.wear, each, n.from, n.to, n.paid);
    }

    private static Now open(Now n, int from, int to) {
        return new Now(n.day, n.wear, n.each, from, to, n.paid);
    }

    private Now mended(Now n) {
        List<Integer> wear = n.wear.stream().map(w -> w == 9 ? 9 : 0).toList();
        return new Now(n.day, wear, n.each, n.from, n.to, n.paid + place.numbers.get("price"));
    }

    private boolean noGuest(int p) {
        return p < 0 || p >= place.guests.size();
    }

    int passer(int p, int what) {
        if (noGuest(p) || what < 0 || what > 5) {
            return NONE;
        }
        Guest g = place.guests.get(p);
        return List.of(KINDS.indexOf(g.kind), new ArrayList<>(place.tunes.keySet()).indexOf(g.tune), g.skill, g.shy,
                minutesOf(g, now.each), g.comes).get(what);
    }

    int tune(int t, int i) {
        List<List<Integer>> rows = new ArrayList<>(place.tunes.values());
        return t < 0 || t >= rows.size() || i < 0 || i >= rows.get(t).size() ? NONE : rows.get(t).get(i);
    }

    int key(int k) {
        return k < 0 || k > 11 ? NONE : now.wear.get(k);
    }

    int begins(int p) {
        return pass(now, 0).begins.getOrDefault(p, NONE);
    }

    int ends(int p) {
        return pass(now, 0).ends.getOrDefault(p, NONE);
    }

    int now(int minute) {
        Passed d = pass(now, 0);
        for (int p : d.begins.keySet()) {
            if (minute >= d.begins.get(p) && minute < d.ends.get(p)) {
                return p;
            }
        }
        return NONE;
    }

    int away() {
        int bits = (1 << place.guests.size()) - 1;
        for (int p : pass(now, 0).begins.keySet()) {
            bits -= 1 << p;
        }
        return bits;
    }

    int joy() {
        return pass(now, 0).joy;
    }

    private void keep() {
        undos.push(now);
        if (undos.size() > 16) {
            undos.removeLast();
        }
    }

    int day() {
        keep();
        Passed d = pass(now, 0);
        now = new Now(now.day + 1, d.wear, now.each, now.from, now.to, now.paid);
        return d.joy;
    }

    int mend() {
        keep();
        int sum = now.wear.stream().filter(w -> w < 9).mapToInt(w -> w).sum();
        now = mended(now);
        return sum;
    }

    boolean each(int minutes) {
        if (minutes < 1 || minutes > 30) {
            return false;
        }
        keep();
        now = each(now, minutes);
        return true;
    }

    boolean open(int from, int to) {
        if (from < 0 || from > 59 || to > 60 || to <= from) {
            return false;
        }
        keep();
        now = open(now, from, to);
        return true;
    }

    boolean undo() {
        if (undos.isEmpty()) {
            return false;
        }
        now = undos.pop();
        return true;
    }

    private static int chosen(int what, int... answers) {
        if (what < 0 || what >= answers.length) {
            throw new NoSuchElementException();
        }
        return answers[what];
    }

    int judged(int what) {
        Now n = start();
        int gone = NONE;
        int joy = 0;
        for (int i = 0; i < week.size(); i++) {
            Line l = week.get(i);
            switch (l.word) {
                case "mend" -> n = mended(n);
                case "each" -> n = each(n, l.first);
                case "open" -> n = open(n, l.first, l.second);
                default -> {
                    Passed d = pass(n, 0);
                    joy += d.joy;
                    n = worn(n, d.wear);
                    if (gone == NONE && n.wear.contains(9)) {
                        gone = i;
                    }
                }
            }
        }
        return chosen(what, gone, joy, n.paid);
    }

    int best(int what) {
        TreeMap<Integer, Integer> found = new TreeMap<>();
        for (int m = 30; m > 0; m--) {
            found.put(pass(each(now, m), 0).joy, m);
        }
        return chosen(what, found.lastEntry().getValue(), found.lastKey());
    }

    int hours(int minutes) {
        if (minutes < 1 || minutes > 60) {
            return NONE;
        }
        TreeMap<Integer, Integer> found = new TreeMap<>();
        for (int from = 60 - minutes; from >= 0; from--) {
            found.put(pass(open(now, from, from + minutes), 0).joy, from);
        }
        return found.lastEntry().getValue();
    }

    int when(int days, int what) {
        if (days < 1 || days > 9) {
            throw new NoSuchElementException();
        }
        TreeMap<Integer, Integer> found = new TreeMap<>();
        for (int ahead = days; ahead >= 0; ahead--) {
            Now n = now;
            int much = ahead == days ? 0 : -place.numbers.get("price");
            for (int d = 0; d < days; d++) {
                Passed p = pass(d == ahead ? mended(n) : n, 0);
                much += p.joy;
                n = worn(n, p.wear);
            }
            found.put(much, ahead == days ? NONE : ahead);
        }
        return chosen(what, found.lastKey(), found.lastEntry().getValue());
    }

    int lasts(int key) {
        if (key < 0 || key > 11) {
            return NONE;
        }
        Now n = now;
        int days = 0;
        while (n.wear.get(key) != 9 && days <= 60) {
            n = worn(n, pass(n, 0).wear);
            days++;
        }
        return days <= 60 ? days : NONE;
    }

    int without(int p) {
        if (noGuest(p)) {
            throw new NoSuchElementException();
        }
        return pass(now, 1 << p).joy - joy();
    }

    int rarer(int joy) {
        if (Math.abs((long) joy) > 9999) {
            return NONE;
        }
        for (int size = 0; size <= place.guests.size(); size++) {
            for (int set = 0; set < 1 << place.guests.size(); set++) {
                if (Integer.bitCount(set) == size && pass(now, set).joy >= joy) {
                    return set;
                }
            }
        }
        return NONE;
    }

    int dare(int others) {
        if (others < 0 || others > 9) {
            return NONE;
        }
        int bits = 0;
        for (int p = 0; p < place.guests.size(); p++) {
            bits += dares(place.guests.get(p), others) ? 1 << p : 0;
        }
        return bits;
    }

    int strikes(int p, int key) {
        return noGuest(p) || key < 0 || key > 11 ? NONE
                : (int) struck(place.guests.get(p)).stream().filter(k -> k == key).count();
    }

    boolean find(int key, int wear) {
        if (key < 0 || key > 11 || wear < 0 || wear > 9 || clues.size() == 8) {
            return false;
        }
        List<Clue> more = new ArrayList<>(clues);
        more.add(new Clue(key, wear));
        clues = more;
        return true;
    }

    private Map<Integer, List<Integer>> possible() {
        Map<Integer, List<Integer>> sets = new TreeMap<>();
        for (int set = 0; set < 1 << place.guests.size(); set++) {
            List<Integer> wear = new ArrayList<>(zeros());
            for (int p = 0; p < place.guests.size(); p++) {
                if ((set & 1 << p) != 0) {
                    play(place.guests.get(p), now.each, wear);
                }
            }
            if (clues.stream().allMatch(c -> wear.get(c.key) == c.wear)) {
                sets.put(set, wear);
            }
        }
        return sets;
    }

    int sets(int what) {
        Set<Integer> sets = possible().keySet();
        if (what == 0) {
            return sets.size();
        }
        if (what != 1 && what != 2 || sets.isEmpty()) {
            return NONE;
        }
        return sets.stream().reduce(what == 1 ? (x, y) -> x & y : (x, y) -> x | y).get();
    }

    int look() {
        Map<Integer, List<Integer>> sets = possible();
        int best = NONE;
        int least = sets.size();
        for (int k = 0; k < 12; k++) {
            final int key = k;
            if (clues.stream().anyMatch(c -> c.key == key)) {
                continue;
            }
            Map<Integer, Integer> alike = new HashMap<>();
            sets.values().forEach(w -> alike.merge(w.get(key), 1, Integer::sum));
            int most = alike.values().stream().mapToInt(x -> x).max().orElse(0);
            if (most < least) {
                least = most;
                best = k;
            }
        }
        return best;
    }

    int share(int p) {
        if (noGuest(p)) {
            return NONE;
        }
        long all = place.guests.stream().mapToLong(g -> struck(g).size()).sum();
        return (int) (place.numbers.get("price") * 1000L * struck(place.guests.get(p)).size() / all);
    }

    int rests(int loses, int ahead, int lets, int what) {
        if (loses < 0 || loses > 9 || ahead < 0 || ahead > 9 || lets < 0 || lets > 9) {
            throw new NoSuchElementException();
        }
        List<Integer> found = new ArrayList<>();
        if (ahead <= 0) {
            found.add(0);
        }
        if (lets >= -loses && ahead >= 0) {
            found.add(1);
            found.add(2);
        }
        if (-loses >= lets) {
            found.add(3);
        }
        if (what == NONE) {
            return found.size();
        }
        if (what < 0 || what >= found.size()) {
            throw new NoSuchElementException();
        }
        return found.get(what);
    }

    int rule(int days, int minutes) {
        if (days < 1 || days > 30 || minutes < 1 || minutes > 30) {
            throw new NoSuchElementException();
        }
        Now n = each(now, minutes);
        int joy = 0;
        for (int d = 0; d < days; d++) {
            Passed p = pass(n, 0);
            joy += p.joy;
            n = worn(n, p.wear);
        }
        return joy;
    }

    int months(int seed, int days, int what) {
        if (seed < 0 || seed > 9999 || days < 1 || days > 60) {
            throw new NoSuchElementException();
        }
        java.math.BigInteger g = java.math.BigInteger.valueOf(seed);
        int joy = 0;
        int often = 0;
        int paid = 0;
        Now n = now;
        for (int d = 0; d < days; d++) {
            int[] comes = new int[place.guests.size()];
            for (int p = 0; p < comes.length; p++) {
                g = next(g);
                comes[p] = drawn(g, 60);
            }
            Passed p = pass(n, 0, comes);
            joy += p.joy;
            often += p.begins.size();
            n = worn(n, p.wear);
            if (n.wear.stream().filter(w -> w >= 6).count() >= 3) {
                g = next(g);
                if (drawn(g, 4) == 0) {
                    n = mended(n);
                    paid += place.numbers.get("price");
                }
            }
        }
        return chosen(what, joy, often, paid);
    }

    private static java.math.BigInteger next(java.math.BigInteger g) {
        return g.multiply(java.math.BigInteger.valueOf(1103515245)).add(java.math.BigInteger.valueOf(12345))
                .mod(java.math.BigInteger.valueOf(2147483648L));
    }

    private static int drawn(java.math.BigInteger g, int below) {
        return (int) (g.longValue() / 65536 % below);
    }

    boolean mark(int mark, boolean back) {
        if (mark < 0 || mark > 3 || back && marks[mark] == null) {
            return false;
        }
        if (back) {
            now = marks[mark].now;
            week = marks[mark].week;
            clues = marks[mark].clues;
            undos.clear();
        } else {
            marks[mark] = new Laid(now, week, clues);
        }
        return true;
    }

    int count(int what) {
        int gone = 0;
        for (int k = 0; k < 12; k++) {
            gone += now.wear.get(k) == 9 ? 1 << k : 0;
        }
        List<Integer> all = List.of(place.tunes.size(), place.guests.size(), place.numbers.get("waits"), now.each, now.from,
                now.to, place.numbers.get("price"), now.day, now.paid, gone, week.size(), clues.size(), undos.size(),
                tape.length());
        return what < 0 || what >= all.size() ? NONE : all.get(what);
    }
}
