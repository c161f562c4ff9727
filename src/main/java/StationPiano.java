import java.util.NoSuchElementException;

/** A piano on a station, for whoever passes; ../shared/DOC.md says what each call promises. */
public final class StationPiano {
    public static final int NONE = -1;

    private static final int TAPE_SIGNS = 1000;
    private static final int KEYS = 12;
    private static final int TOP_WEAR = 9;
    private static final int WEARS = TOP_WEAR + 1;
    private static final int TUNES = 5;
    private static final int TUNE_KEYS = 9;
    private static final int PASSERS = 7;
    private static final int LINES = 40;
    private static final int MINUTES = 60;
    private static final int LONGEST_EACH = 30;
    private static final int TOP_PRICE = 999;
    private static final int CLUES = 8;
    private static final int UNDOS = 16;
    private static final int MARKS = 4;
    private static final int WITHIN = 5;
    private static final int LAST_DAYS = 60;

    private static final int PLAIN = 0;
    private static final int FINGER = 1;
    private static final int DRUNK = 2;
    private static final int EARNER = 3;

    /* All words with a meaning, each with a blank behind it; a word's number is its place here. The facts stand last,
       for they alone may be names too. */
    private static final String WORDS = "tune passer plays skill shy stays comes waits each open to price joys wears day mend plain finger drunk earner not and or able worn others same used long ";
    private static final int W_TUNE = 0;
    private static final int W_PASSER = 1;
    private static final int W_PLAYS = 2;
    private static final int W_SKILL = 3;
    private static final int W_SHY = 4;
    private static final int W_STAYS = 5;
    private static final int W_COMES = 6;
    private static final int W_WAITS = 7;
    private static final int W_EACH = 8;
    private static final int W_OPEN = 9;
    private static final int W_TO = 10;
    private static final int W_PRICE = 11;
    private static final int W_JOYS = 12;
    private static final int W_WEARS = 13;
    private static final int W_DAY = 14;
    private static final int W_MEND = 15;
    private static final int W_PLAIN = 16;
    private static final int W_EARNER = 19;
    private static final int W_NOT = 20;
    private static final int W_AND = 21;
    private static final int W_OR = 22;
    private static final int W_ABLE = 23;
    private static final int W_LONG = 28;
    private static final int W_OTHER = 29;
    private static final String SIGNS = "()<=+-*;";
    private static final int LONGEST_WORD = 8;
    private static final int LONGEST_NUMBER = 4;
    /* Tokens beside words, and beside signs, which stand for themselves (40 to 61). */
    private static final int NUMBER = 100;
    private static final int END = 101;
    private static final int NO_TOKEN = 102;

    private static final int ABLE = 0;
    private static final int WORN = 1;
    private static final int OTHERS = 2;
    private static final int SAME = 3;
    private static final int USED = 4;
    private static final int LONG = 5;
    private static final int FACTS = 6;

    /* A law's code: a number from 0 on stands for itself, -1 - f for the fact f, these for what is done. */
    private static final int DO_NOT = -11;
    private static final int DO_AND = -12;
    private static final int DO_OR = -13;
    private static final int DO_LESS = -14;
    private static final int DO_EQUAL = -15;
    private static final int DO_PLUS = -16;
    private static final int DO_MINUS = -17;
    private static final int DO_TIMES = -18;
    /* Four values may be open within each of five brackets, and one more. */
    private static final int STACK = 32;
    /* How an expression's signs bind, the loosest first. */
    private static final int LEVEL_LOGIC = 0;
    private static final int LEVEL_TEST = 1;
    private static final int LEVEL_SUM = 2;
    private static final int LEVEL_PRODUCT = 3;

    private static final int WRONG_TOKEN = 1;
    private static final int NO_SUCH_TUNE = 2;
    private static final int TOLD_ALREADY = 3;
    private static final int WRONG_NUMBER = 4;
    private static final int ONE_TOO_MANY = 5;

    private final Tape tape;
    private final Reader reader;
    private Station station;
    private Station draft;
    private final State state;
    private final State trial;
    private final Week plan;
    private final Week draftPlan;
    private final Clues clues;
    private final Suspects suspects;
    private final DayRun run;
    private final Mark[] marks;
    private final State[] past;
    private int pastNext;
    private int pastCount;
    private final int[] answers;
    private long drawn;

    public StationPiano() {
        tape = new Tape();
        reader = new Reader(tape);
        station = new Station();
        draft = new Station();
        state = new State();
        trial = new State();
        plan = new Week();
        draftPlan = new Week();
        clues = new Clues();
        suspects = new Suspects();
        run = new DayRun(station);
        marks = new Mark[MARKS];
        for (int i = 0; i < MARKS; i++) {
            marks[i] = new Mark();
        }
        past = new State[UNDOS];
        for (int i = 0; i < UNDOS; i++) {
            past[i] = new State();
        }
        answers = new int[3];
    }

    public int feed(long a, long b, long c) {
        feedBytes(a);
        feedBytes(b);
        feedBytes(c);
        return tape.length;
    }

    public int station() {
        int fault = reader.readStation(draft);
        tape.length = 0;
        if (fault == 0) {
            Station old = station;
            station = draft;
            draft = old;
            beginStation();
        }
        return fault;
    }

    public int week() {
        int fault = reader.readWeek(draftPlan);
        tape.length = 0;
        if (fault == 0) {
            plan.copyFrom(draftPlan);
        }
        return fault;
    }

    public int passer(int passer, int what) {
        if (!isPasser(passer)) {
            return NONE;
        }
        Passer he = station.passers[passer];
        switch (what) {
            case 0: return he.kind;
            case 1: return he.tune;
            case 2: return he.skill;
            case 3: return he.shyness;
            case 4: return he.playsFor(state.minutes);
            case 5: return he.arrives;
            default: return NONE;
        }
    }

    public int tune(int tune, int i) {
        if (tune < 0 || tune >= station.tuneCount || tune >= TUNES || i < 0 || i >= TUNE_KEYS) {
            return NONE;
        }
        return i < station.tuneLengths[tune] ? station.tuneKeys[tune][i] : NONE;
    }

    public int key(int key) {
        return isKey(key) ? state.wear[key] : NONE;
    }

    public int begins(int passer) {
        if (!isPasser(passer)) {
            return NONE;
        }
        tryDay(0);
        return run.beginOf[passer];
    }

    public int ends(int passer) {
        if (!isPasser(passer)) {
            return NONE;
        }
        tryDay(0);
        return run.endOf[passer];
    }

    public int now(int minute) {
        if (minute < 0 || minute >= MINUTES) {
            return NONE;
        }
        tryDay(0);
        for (int p = 0; p < station.passerCount && p < PASSERS; p++) {
            if (run.beginOf[p] != NONE && run.beginOf[p] <= minute && minute < run.endOf[p]) {
                return p;
            }
        }
        return NONE;
    }

    public int away() {
        tryDay(0);
        int set = 0;
        for (int p = 0; p < station.passerCount && p < PASSERS; p++) {
            if (run.beginOf[p] == NONE) {
                set |= 1 << p;
            }
        }
        return set;
    }

    public int joy() {
        return tryDay(0);
    }

    public int day() {
        remember();
        run.prepare(station, state.minutes);
        run.pass(state, 0);
        state.day++;
        return run.joySum;
    }

    public int mend() {
        remember();
        return state.tuneUp(station.price);
    }

    public boolean each(int minutes) {
        if (!isEach(minutes)) {
            return false;
        }
        remember();
        state.minutes = minutes;
        return true;
    }

    public boolean open(int from, int to) {
        if (from < 0 || from >= MINUTES || to <= from || to > MINUTES) {
            return false;
        }
        remember();
        state.from = from;
        state.to = to;
        return true;
    }

    public boolean undo() {
        if (pastCount <= 0) {
            return false;
        }
        pastNext = pastNext > 0 && pastNext < UNDOS ? pastNext - 1 : UNDOS - 1;
        pastCount--;
        state.copyFrom(past[pastNext]);
        return true;
    }

    public int judged(int what) throws NoSuchElementException {
        if (what < 0 || what > 2) {
            throw new NoSuchElementException();
        }
        judgeWeek();
        return answers[what];
    }

    public int best(int what) throws NoSuchElementException {
        if (what < 0 || what > 1) {
            throw new NoSuchElementException();
        }
        searchEach();
        return answers[what];
    }

    public int hours(int minutes) {
        if (minutes < 1 || minutes > MINUTES) {
            return NONE;
        }
        run.prepare(station, state.minutes);
        int most = 0;
        int first = NONE;
        for (int from = 0; from + minutes <= MINUTES; from++) {
            trial.copyFrom(state);
            trial.from = from;
            trial.to = from + minutes;
            run.pass(trial, 0);
            if (first == NONE || run.joySum > most) {
                most = run.joySum;
                first = from;
            }
        }
        return first;
    }

    public int when(int days, int what) throws NoSuchElementException {
        if (days < 1 || days > 9 || what < 0 || what > 1) {
            throw new NoSuchElementException();
        }
        searchMending(days);
        return answers[what];
    }

    public int lasts(int key) {
        if (!isKey(key)) {
            return NONE;
        }
        trial.copyFrom(state);
        run.prepare(station, trial.minutes);
        for (int days = 0; days <= LAST_DAYS; days++) {
            if (trial.wear[key] >= TOP_WEAR) {
                return days;
            }
            run.pass(trial, 0);
        }
        return NONE;
    }

    public int without(int passer) throws NoSuchElementException {
        if (!isPasser(passer)) {
            throw new NoSuchElementException();
        }
        int with = tryDay(0);
        return tryDay(1 << passer) - with;
    }

    public int rarer(int joy) {
        if (joy < -9999 || joy > 9999) {
            return NONE;
        }
        run.prepare(station, state.minutes);
        int sets = 1 << Math.max(0, Math.min(PASSERS, station.passerCount));
        int least = NONE;
        for (int set = 0; set < sets; set++) {
            if (least != NONE && Integer.bitCount(set) >= Integer.bitCount(least)) {
                continue;
            }
            trial.copyFrom(state);
            run.pass(trial, set);
            if (run.joySum >= joy) {
                least = set;
            }
        }
        return least;
    }

    public int dare(int others) {
        if (others < 0 || others > 9) {
            return NONE;
        }
        int set = 0;
        for (int p = 0; p < station.passerCount && p < PASSERS; p++) {
            if (station.passers[p].daresBefore(others)) {
                set |= 1 << p;
            }
        }
        return set;
    }

    public int strikes(int passer, int key) {
        if (!isPasser(passer) || !isKey(key)) {
            return NONE;
        }
        return station.passers[passer].strikesOn(key);
    }

    public boolean find(int key, int wear) {
        return isKey(key) && wear >= 0 && wear <= TOP_WEAR && clues.add(key, wear);
    }

    public int sets(int what) {
        if (what < 0 || what > 2) {
            return NONE;
        }
        run.prepare(station, state.minutes);
        suspects.search(station, run, clues);
        if (what == 0) {
            return suspects.setCount;
        }
        if (suspects.setCount == 0) {
            return NONE;
        }
        return what == 1 ? suspects.inAll : suspects.inSome;
    }

    public int look() {
        run.prepare(station, state.minutes);
        suspects.search(station, run, clues);
        int least = suspects.setCount;
        int first = NONE;
        for (int k = 0; k < KEYS; k++) {
            if (!clues.has(k) && suspects.mostAlike(k) < least) {
                least = suspects.mostAlike(k);
                first = k;
            }
        }
        return first;
    }

    public int share(int passer) {
        if (!isPasser(passer)) {
            return NONE;
        }
        int all = 0;
        for (int p = 0; p < station.passerCount && p < PASSERS; p++) {
            all += station.passers[p].struckCount;
        }
        return all > 0 ? station.price * 1000 * station.passers[passer].struckCount / all : NONE;
    }

    public int rests(int loses, int ahead, int lets, int what) throws NoSuchElementException {
        if (!isDigit(loses) || !isDigit(ahead) || !isDigit(lets) || what < NONE) {
            throw new NoSuchElementException();
        }
        int found = 0;
        for (int both = 0; both < 4; both++) {
            if (!isRest(loses, ahead, lets, both)) {
                continue;
            }
            if (found == what) {
                return both;
            }
            found++;
        }
        if (what != NONE) {
            throw new NoSuchElementException();
        }
        return found;
    }

    public int rule(int days, int minutes) throws NoSuchElementException {
        if (days < 1 || days > 30 || !isEach(minutes)) {
            throw new NoSuchElementException();
        }
        trial.copyFrom(state);
        trial.minutes = minutes;
        run.prepare(station, minutes);
        int sum = 0;
        for (int d = 0; d < days; d++) {
            run.pass(trial, 0);
            sum += run.joySum;
        }
        return sum;
    }

    public int months(int seed, int days, int what) throws NoSuchElementException {
        if (seed < 0 || seed > 9999 || days < 1 || days > LAST_DAYS || what < 0 || what > 2) {
            throw new NoSuchElementException();
        }
        drawMonths(seed, days);
        return answers[what];
    }

    public boolean mark(int mark, boolean back) {
        if (mark < 0 || mark >= MARKS) {
            return false;
        }
        Mark that = marks[mark];
        if (!back) {
            that.lay(state, plan, clues);
            return true;
        }
        if (!that.laid) {
            return false;
        }
        that.bringBack(state, plan, clues);
        pastCount = 0;
        return true;
    }

    public int count(int what) {
        switch (what) {
            case 0: return station.tuneCount;
            case 1: return station.passerCount;
            case 2: return station.waits;
            case 3: return state.minutes;
            case 4: return state.from;
            case 5: return state.to;
            case 6: return station.price;
            case 7: return state.day;
            case 8: return state.paid;
            case 9: return state.goneKeys();
            case 10: return plan.length;
            case 11: return clues.length;
            case 12: return pastCount;
            case 13: return tape.length;
            default: return NONE;
        }
    }

    private void feedBytes(long signs) {
        for (int shift = 56; shift >= 0; shift -= 8) {
            tape.add((int) (signs >>> shift) & 255);
        }
    }

    private void beginStation() {
        state.begin(station);
        plan.length = 0;
        clues.length = 0;
        pastCount = 0;
        for (int i = 0; i < MARKS; i++) {
            marks[i].laid = false;
        }
    }

    private boolean isPasser(int passer) {
        return passer >= 0 && passer < station.passerCount && passer < PASSERS;
    }

    private static boolean isKey(int key) {
        return key >= 0 && key < KEYS;
    }

    private static boolean isEach(int minutes) {
        return minutes >= 1 && minutes <= LONGEST_EACH;
    }

    private static boolean isDigit(int number) {
        return number >= 0 && number <= 9;
    }

    private void remember() {
        if (pastNext < 0 || pastNext >= UNDOS) {
            pastNext = 0;
        }
        past[pastNext].copyFrom(state);
        pastNext = pastNext + 1 < UNDOS ? pastNext + 1 : 0;
        pastCount = Math.min(UNDOS, pastCount + 1);
    }

    /** The day that comes, without those in the set, on a copy: its joy. */
    private int tryDay(int absent) {
        trial.copyFrom(state);
        run.prepare(station, trial.minutes);
        run.pass(trial, absent);
        return run.joySum;
    }

    private void judgeWeek() {
        int goneLine = NONE;
        int sum = 0;
        trial.begin(station);
        for (int i = 0; i < plan.length && i < LINES; i++) {
            switch (plan.kinds[i]) {
                case W_DAY:
                    run.prepare(station, trial.minutes);
                    run.pass(trial, 0);
                    sum += run.joySum;
                    goneLine = goneLine == NONE && trial.goneKeys() != 0 ? i : goneLine;
                    break;
                case W_MEND:
                    trial.tuneUp(station.price);
                    break;
                case W_EACH:
                    trial.minutes = plan.firsts[i];
                    break;
                default:
                    trial.from = plan.firsts[i];
                    trial.to = plan.seconds[i];
                    break;
            }
        }
        answers[0] = goneLine;
        answers[1] = sum;
        answers[2] = trial.paid;
    }

    private void searchEach() {
        answers[0] = NONE;
        for (int minutes = 1; minutes <= LONGEST_EACH; minutes++) {
            trial.copyFrom(state);
            run.prepare(station, minutes);
            run.pass(trial, 0);
            if (answers[0] == NONE || run.joySum > answers[1]) {
                answers[0] = minutes;
                answers[1] = run.joySum;
            }
        }
    }

    private void searchMending(int days) {
        run.prepare(station, state.minutes);
        answers[0] = joyMendedAhead(days, 0);
        answers[1] = 0;
        for (int ahead = 1; ahead <= days; ahead++) {
            int much = joyMendedAhead(days, ahead);
            if (much > answers[0]) {
                answers[0] = much;
                answers[1] = ahead < days ? ahead : NONE;
            }
        }
    }

    /** Joy less the price; ahead of a day that never comes nothing is mended. */
    private int joyMendedAhead(int days, int ahead) {
        trial.copyFrom(state);
        trial.paid = 0;
        int sum = 0;
        for (int d = 0; d < days; d++) {
            if (d == ahead) {
                trial.tuneUp(station.price);
            }
            run.pass(trial, 0);
            sum += run.joySum;
        }
        return sum - trial.paid;
    }

    /** Each of the two has a bit in both: 2 the first one's, 1 the other one's. */
    private static boolean isRest(int loses, int ahead, int lets, int both) {
        int first = both / 2;
        int other = both % 2;
        return gain(loses, ahead, lets, 1 - first, other) <= gain(loses, ahead, lets, first, other)
                && gain(loses, ahead, lets, 1 - other, first) <= gain(loses, ahead, lets, other, first);
    }

    private static int gain(int loses, int ahead, int lets, int own, int other) {
        if (own == 1) {
            return other == 1 ? -loses : ahead;
        }
        return other == 1 ? lets : 0;
    }

    private void drawMonths(int seed, int days) {
        int sum = 0;
        int plays = 0;
        drawn = seed;
        trial.copyFrom(state);
        trial.paid = 0;
        run.prepare(station, trial.minutes);
        for (int d = 0; d < days; d++) {
            for (int p = 0; p < station.passerCount && p < PASSERS; p++) {
                run.arrives[p] = draw(MINUTES);
            }
            run.pass(trial, 0);
            sum += run.joySum;
            plays += run.begun;
            if (trial.keysAbove(5) >= 3 && draw(4) == 0) {
                trial.tuneUp(station.price);
            }
        }
        answers[0] = sum;
        answers[1] = plays;
        answers[2] = trial.paid;
    }

    private int draw(int below) {
        drawn = (drawn * 1103515245L + 12345L) & 2147483647L;
        return below > 0 ? (int) (drawn / 65536 % below) : 0;
    }

    /** The signs fed so far and, while they are read, the token that comes next. */
    private static final class Tape {
        private final byte[] signs = new byte[TAPE_SIGNS];
        private int length;
        private int token;
        private int place;
        private int behind;
        private int number;
        private long letters;

        void add(int sign) {
            if (length >= 0 && length < TAPE_SIGNS && (sign == 10 || sign >= 32 && sign <= 126)) {
                signs[length] = (byte) sign;
                length++;
            }
        }

        void rewind() {
            behind = 0;
            advance();
        }

        /** All of a token's reading stands here, so that no call goes deep. */
        void advance() {
            while (behind < length && (signAt(behind) == 10 || signAt(behind) == 32)) {
                behind++;
            }
            place = behind;
            if (place >= length) {
                token = END;
                return;
            }
            letters = 0;
            while (behind < length && signAt(behind) >= 'a' && signAt(behind) <= 'z') {
                letters = letters * 32 + (signAt(behind) - 'a' + 1);
                behind++;
            }
            if (behind > place) {
                token = behind - place > LONGEST_WORD ? NO_TOKEN : wordNumber(letters);
                return;
            }
            number = 0;
            while (behind < length && signAt(behind) >= '0' && signAt(behind) <= '9') {
                number = number * 10 + signAt(behind) - '0';
                behind++;
            }
            if (behind > place) {
                token = behind - place > LONGEST_NUMBER ? NO_TOKEN : NUMBER;
                return;
            }
            token = SIGNS.indexOf((char) signAt(place)) >= 0 ? signAt(place) : NO_TOKEN;
            behind++;
        }

        private int signAt(int at) {
            return at >= 0 && at < length && at < TAPE_SIGNS ? signs[at] : 0;
        }

        /** A word of eight letters fits into one long, so that words need no objects. */
        private static int wordNumber(long letters) {
            long word = 0;
            int at = 0;
            for (int i = 0; i < WORDS.length(); i++) {
                char sign = WORDS.charAt(i);
                if (sign != ' ') {
                    word = word * 32 + (sign - 'a' + 1);
                } else if (word == letters) {
                    return at;
                } else {
                    word = 0;
                    at++;
                }
            }
            return W_OTHER;
        }
    }

    /** Reads the tape token by token; each step answers whether all was right so far. */
    private static final class Reader {
        private final Tape tape;
        private int got;
        private int fault;

        Reader(Tape tape) {
            this.tape = tape;
        }

        int readStation(Station draft) {
            draft.clear();
            fault = 0;
            tape.rewind();
            for (int i = 0; i <= TAPE_SIGNS && tape.token != END; i++) {
                if (!stationLine(draft)) {
                    return fault;
                }
            }
            return 0;
        }

        int readWeek(Week draft) {
            draft.length = 0;
            fault = 0;
            tape.rewind();
            for (int i = 0; i <= TAPE_SIGNS && tape.token != END; i++) {
                if (!weekLine(draft)) {
                    return fault;
                }
            }
            return 0;
        }

        private boolean wrong(int kind) {
            fault = kind + 16 * tape.place;
            return false;
        }

        private boolean take(int token) {
            if (tape.token != token) {
                return wrong(WRONG_TOKEN);
            }
            tape.advance();
            return true;
        }

        private boolean takeNumber(int least, int most) {
            if (tape.token != NUMBER) {
                return wrong(WRONG_TOKEN);
            }
            if (tape.number < least || tape.number > most) {
                return wrong(WRONG_NUMBER);
            }
            got = tape.number;
            tape.advance();
            return true;
        }

        private boolean takeValue(int word, int least, int most) {
            return take(word) && takeNumber(least, most);
        }

        private boolean isName() {
            return tape.token >= W_ABLE && tape.token <= W_OTHER;
        }

        private boolean mayBeNewName(Station draft) {
            if (!isName()) {
                return wrong(WRONG_TOKEN);
            }
            return draft.hasName(tape.letters) ? wrong(TOLD_ALREADY) : true;
        }

        private boolean weekLine(Week draft) {
            int word = tape.token;
            if (word != W_DAY && word != W_MEND && word != W_EACH && word != W_OPEN) {
                return wrong(WRONG_TOKEN);
            }
            if (draft.length >= LINES) {
                return wrong(ONE_TOO_MANY);
            }
            int first = 0;
            int second = 0;
            tape.advance();
            if (word == W_EACH) {
                if (!takeNumber(1, LONGEST_EACH)) {
                    return false;
                }
                first = got;
            } else if (word == W_OPEN) {
                if (!takeNumber(0, MINUTES - 1)) {
                    return false;
                }
                first = got;
                if (!takeValue(W_TO, first + 1, MINUTES)) {
                    return false;
                }
                second = got;
            }
            draft.add(word, first, second);
            return take(';');
        }

        private boolean stationLine(Station draft) {
            switch (tape.token) {
                case W_TUNE:
                    return tuneLine(draft) && take(';');
                case W_PASSER:
                    return passerLine(draft) && take(';');
                case W_WAITS:
                    return toldFirst(draft) && waitsTold(draft) && take(';');
                case W_EACH:
                    return toldFirst(draft) && eachTold(draft) && take(';');
                case W_OPEN:
                    return toldFirst(draft) && hoursTold(draft) && take(';');
                case W_PRICE:
                    return toldFirst(draft) && priceTold(draft) && take(';');
                case W_JOYS:
                    return toldFirst(draft) && expression(draft.joys, 0, LEVEL_LOGIC) && take(';');
                case W_WEARS:
                    return toldFirst(draft) && expression(draft.wears, 0, LEVEL_LOGIC) && take(';');
                default:
                    return wrong(WRONG_TOKEN);
            }
        }

        private boolean toldFirst(Station draft) {
            int bit = 1 << tape.token;
            if ((draft.toldOnce & bit) != 0) {
                return wrong(TOLD_ALREADY);
            }
            draft.toldOnce |= bit;
            tape.advance();
            return true;
        }

        private boolean waitsTold(Station draft) {
            boolean right = takeNumber(0, MINUTES - 1);
            draft.waits = got;
            return right;
        }

        private boolean eachTold(Station draft) {
            boolean right = takeNumber(1, LONGEST_EACH);
            draft.minutes = got;
            return right;
        }

        private boolean hoursTold(Station draft) {
            if (!takeNumber(0, MINUTES - 1)) {
                return false;
            }
            draft.from = got;
            boolean right = takeValue(W_TO, draft.from + 1, MINUTES);
            draft.to = got;
            return right;
        }

        private boolean priceTold(Station draft) {
            boolean right = takeNumber(0, TOP_PRICE);
            draft.price = got;
            return right;
        }

        private boolean tuneLine(Station draft) {
            int tune = draft.tuneCount;
            if (tune < 0 || tune >= TUNES) {
                return wrong(ONE_TOO_MANY);
            }
            tape.advance();
            if (!mayBeNewName(draft)) {
                return false;
            }
            draft.tuneNames[tune] = tape.letters;
            draft.tuneLengths[tune] = 0;
            draft.tuneCount++;
            tape.advance();
            if (!takeKey(draft, tune)) {
                return false;
            }
            for (int i = 0; i <= TUNE_KEYS && tape.token == NUMBER; i++) {
                if (!takeKey(draft, tune)) {
                    return false;
                }
            }
            return true;
        }

        private boolean takeKey(Station draft, int tune) {
            int at = draft.tuneLengths[tune];
            if (tape.token == NUMBER && tape.number < KEYS && (at < 0 || at >= TUNE_KEYS)) {
                return wrong(ONE_TOO_MANY);
            }
            if (!takeNumber(0, KEYS - 1)) {
                return false;
            }
            draft.tuneKeys[tune][at] = got;
            draft.tuneLengths[tune] = at + 1;
            return true;
        }

        private boolean passerLine(Station draft) {
            if (draft.passerCount < 0 || draft.passerCount >= PASSERS) {
                return wrong(ONE_TOO_MANY);
            }
            tape.advance();
            if (!mayBeNewName(draft)) {
                return false;
            }
            Passer he = draft.passers[draft.passerCount];
            he.name = tape.letters;
            draft.passerCount++;
            tape.advance();
            if (!takeKind(he) || !take(W_PLAYS) || !takeTune(draft, he)) {
                return false;
            }
            if (!takeValue(W_SKILL, 0, 9)) {
                return false;
            }
            he.skill = got;
            if (!takeValue(W_SHY, 0, 9)) {
                return false;
            }
            he.shyness = got;
            if (!takeValue(W_STAYS, 1, 30)) {
                return false;
            }
            he.stays = got;
            if (!takeValue(W_COMES, 0, MINUTES - 1)) {
                return false;
            }
            he.arrives = got;
            return true;
        }

        private boolean takeKind(Passer he) {
            if (tape.token < W_PLAIN || tape.token > W_EARNER) {
                return wrong(WRONG_TOKEN);
            }
            he.kind = PLAIN + tape.token - W_PLAIN;
            tape.advance();
            return true;
        }

        private boolean takeTune(Station draft, Passer he) {
            if (!isName()) {
                return wrong(WRONG_TOKEN);
            }
            int tune = draft.tuneNamed(tape.letters);
            if (tune < 0 || tune >= TUNES) {
                return wrong(NO_SUCH_TUNE);
            }
            he.tune = tune;
            he.learn(draft.tuneKeys[tune], draft.tuneLengths[tune]);
            tape.advance();
            return true;
        }

        /** What is joined by signs of this level, or of one that binds tighter. */
        private boolean expression(Law law, int depth, int level) {
            boolean right = level < LEVEL_PRODUCT ? expression(law, depth, level + 1) : part(law, depth);
            int most = level == LEVEL_TEST ? 1 : TAPE_SIGNS;
            for (int i = 0; i < most && right; i++) {
                int step = stepOf(tape.token, level);
                if (step == 0) {
                    return true;
                }
                tape.advance();
                right = level < LEVEL_PRODUCT ? expression(law, depth, level + 1) : part(law, depth);
                law.add(step);
            }
            return right;
        }

        private static int stepOf(int token, int level) {
            switch (level) {
                case LEVEL_LOGIC: return token == W_AND ? DO_AND : token == W_OR ? DO_OR : 0;
                case LEVEL_TEST: return token == '<' ? DO_LESS : token == '=' ? DO_EQUAL : 0;
                case LEVEL_SUM: return token == '+' ? DO_PLUS : token == '-' ? DO_MINUS : 0;
                default: return token == '*' ? DO_TIMES : 0;
            }
        }

        /** The depth: how many of not and ( ) this part lies within. */
        private boolean part(Law law, int depth) {
            int token = tape.token;
            int number = tape.number;
            if (token != NUMBER && token != W_NOT && token != '(' && !law.knows(token)) {
                return wrong(WRONG_TOKEN);
            }
            if (depth >= WITHIN) {
                return wrong(ONE_TOO_MANY);
            }
            tape.advance();
            if (token == '(') {
                return expression(law, depth + 1, LEVEL_LOGIC) && take(')');
            }
            if (token == W_NOT) {
                boolean right = part(law, depth + 1);
                law.add(DO_NOT);
                return right;
            }
            law.add(token == NUMBER ? number : -1 - (token - W_ABLE));
            return true;
        }
    }

    /** A law of joy or of wear, as code for a small stack. Without code it is not told. */
    private static final class Law {
        private final int[] code = new int[TAPE_SIGNS];
        private final int[] stack = new int[STACK];
        private final boolean ofJoys;
        private int length;
        private int top;

        Law(boolean ofJoys) {
            this.ofJoys = ofJoys;
        }

        /** Of able both laws know, of the other facts one alone. */
        boolean knows(int token) {
            if (token < W_ABLE || token > W_LONG) {
                return false;
            }
            int fact = token - W_ABLE;
            return fact == ABLE || (fact < USED) == ofJoys;
        }

        void add(int step) {
            if (length >= 0 && length < TAPE_SIGNS) {
                code[length] = step;
                length++;
            }
        }

        int valueBy(int[] facts) {
            top = 0;
            for (int i = 0; i < length && i < TAPE_SIGNS; i++) {
                int step = code[i];
                if (step >= 0) {
                    push(step);
                } else if (step > DO_NOT) {
                    int fact = -1 - step;
                    push(fact >= 0 && fact < facts.length ? facts[fact] : 0);
                } else if (step == DO_NOT) {
                    push(pop() == 0 ? 1 : 0);
                } else {
                    int right = pop();
                    push(joined(step, pop(), right));
                }
            }
            return pop();
        }

        private void push(int value) {
            if (top >= 0 && top < STACK) {
                stack[top] = value;
                top++;
            }
        }

        private int pop() {
            if (top <= 0 || top > STACK) {
                return 0;
            }
            top--;
            return stack[top];
        }

        private static int joined(int step, int left, int right) {
            switch (step) {
                case DO_AND: return left != 0 && right != 0 ? 1 : 0;
                case DO_OR: return left != 0 || right != 0 ? 1 : 0;
                case DO_LESS: return left < right ? 1 : 0;
                case DO_EQUAL: return left == right ? 1 : 0;
                case DO_PLUS: return left + right;
                case DO_MINUS: return left - right;
                default: return left * right;
            }
        }
    }

    private static final class Passer {
        private final int[] struck = new int[2 * TUNE_KEYS];
        private int struckCount;
        private long name;
        private int kind;
        private int tune;
        private int skill;
        private int shyness;
        private int stays;
        private int arrives;

        /** All keys that he strikes, one behind another. */
        void learn(int[] keys, int length) {
            int once = kind == FINGER ? Math.min(3, length) : length;
            int times = kind == DRUNK ? 2 : 1;
            struckCount = 0;
            for (int round = 0; round < times; round++) {
                for (int i = 0; i < once && i < keys.length; i++) {
                    if (struckCount >= 0 && struckCount < 2 * TUNE_KEYS) {
                        struck[struckCount] = keys[i];
                        struckCount++;
                    }
                }
            }
        }

        int strikesOn(int key) {
            int times = 0;
            for (int i = 0; i < struckCount && i < 2 * TUNE_KEYS; i++) {
                if (struck[i] == key) {
                    times++;
                }
            }
            return times;
        }

        int playsFor(int minutes) {
            return kind == EARNER ? stays : Math.min(stays, minutes);
        }

        boolean daresBefore(int others) {
            return kind == DRUNK || shyness + others <= 9;
        }
    }

    /** A station as it is told. */
    private static final class Station {
        private final long[] tuneNames = new long[TUNES];
        private final int[] tuneLengths = new int[TUNES];
        private final int[][] tuneKeys = new int[TUNES][TUNE_KEYS];
        private final Passer[] passers = new Passer[PASSERS];
        private final Law joys = new Law(true);
        private final Law wears = new Law(false);
        private int tuneCount;
        private int passerCount;
        private int waits = 5;
        private int minutes = LONGEST_EACH;
        private int from;
        private int to = MINUTES;
        private int price = 60;
        private int toldOnce;

        Station() {
            for (int i = 0; i < PASSERS; i++) {
                passers[i] = new Passer();
            }
        }

        void clear() {
            tuneCount = 0;
            passerCount = 0;
            joys.length = 0;
            wears.length = 0;
            waits = 5;
            minutes = LONGEST_EACH;
            from = 0;
            to = MINUTES;
            price = 60;
            toldOnce = 0;
        }

        int tuneNamed(long name) {
            for (int i = 0; i < tuneCount && i < TUNES; i++) {
                if (tuneNames[i] == name) {
                    return i;
                }
            }
            return NONE;
        }

        boolean hasName(long name) {
            for (int i = 0; i < passerCount && i < PASSERS; i++) {
                if (passers[i].name == name) {
                    return true;
                }
            }
            return tuneNamed(name) != NONE;
        }

        int joyBy(int[] facts) {
            int value = joys.length > 0 ? joys.valueBy(facts) : facts[ABLE] - facts[WORN] - facts[SAME];
            return Math.max(-99, Math.min(99, value));
        }

        int wearBy(int[] facts) {
            int value = wears.length > 0 ? wears.valueBy(facts) : 1;
            return Math.max(0, Math.min(TOP_WEAR, value));
        }
    }

    /** What is done by hand changes this alone, so that a copy of it undoes all. */
    private static final class State {
        private final int[] wear = new int[KEYS];
        private int day;
        private int minutes = LONGEST_EACH;
        private int from;
        private int to = MINUTES;
        private int paid;

        void copyFrom(State other) {
            for (int k = 0; k < KEYS; k++) {
                wear[k] = other.wear[k];
            }
            day = other.day;
            minutes = other.minutes;
            from = other.from;
            to = other.to;
            paid = other.paid;
        }

        void begin(Station station) {
            for (int k = 0; k < KEYS; k++) {
                wear[k] = 0;
            }
            day = 0;
            minutes = station.minutes;
            from = station.from;
            to = station.to;
            paid = 0;
        }

        int tuneUp(int price) {
            int sum = 0;
            for (int k = 0; k < KEYS; k++) {
                if (wear[k] < TOP_WEAR) {
                    sum += wear[k];
                    wear[k] = 0;
                }
            }
            paid += price;
            return sum;
        }

        int goneKeys() {
            int set = 0;
            for (int k = 0; k < KEYS; k++) {
                if (wear[k] >= TOP_WEAR) {
                    set |= 1 << k;
                }
            }
            return set;
        }

        int keysAbove(int limit) {
            int many = 0;
            for (int k = 0; k < KEYS; k++) {
                if (wear[k] > limit) {
                    many++;
                }
            }
            return many;
        }
    }

    private static final class Week {
        private final int[] kinds = new int[LINES];
        private final int[] firsts = new int[LINES];
        private final int[] seconds = new int[LINES];
        private int length;

        void add(int kind, int first, int second) {
            if (length >= 0 && length < LINES) {
                kinds[length] = kind;
                firsts[length] = first;
                seconds[length] = second;
                length++;
            }
        }

        void copyFrom(Week other) {
            length = other.length;
            for (int i = 0; i < length && i < LINES; i++) {
                kinds[i] = other.kinds[i];
                firsts[i] = other.firsts[i];
                seconds[i] = other.seconds[i];
            }
        }
    }

    /** What is found. */
    private static final class Clues {
        private final int[] keys = new int[CLUES];
        private final int[] wears = new int[CLUES];
        private int length;

        boolean add(int key, int wear) {
            if (length < 0 || length >= CLUES) {
                return false;
            }
            keys[length] = key;
            wears[length] = wear;
            length++;
            return true;
        }

        boolean has(int key) {
            for (int i = 0; i < length && i < CLUES; i++) {
                if (keys[i] == key) {
                    return true;
                }
            }
            return false;
        }

        boolean allSo(int[] wear) {
            for (int i = 0; i < length && i < CLUES; i++) {
                int key = keys[i];
                if (key < 0 || key >= wear.length || wear[key] != wears[i]) {
                    return false;
                }
            }
            return true;
        }

        void copyFrom(Clues other) {
            length = other.length;
            for (int i = 0; i < length && i < CLUES; i++) {
                keys[i] = other.keys[i];
                wears[i] = other.wears[i];
            }
        }
    }

    private static final class Mark {
        private final State state = new State();
        private final Week plan = new Week();
        private final Clues clues = new Clues();
        private boolean laid;

        void lay(State stateNow, Week planNow, Clues cluesNow) {
            state.copyFrom(stateNow);
            plan.copyFrom(planNow);
            clues.copyFrom(cluesNow);
            laid = true;
        }

        void bringBack(State stateNow, Week planNow, Clues cluesNow) {
            stateNow.copyFrom(state);
            planNow.copyFrom(plan);
            cluesNow.copyFrom(clues);
        }
    }

    /** The sets of passers who may have played, by all that is found. */
    private static final class Suspects {
        private final int[] wear = new int[KEYS];
        private final int[] tally = new int[KEYS * WEARS];
        private int setCount;
        private int inAll;
        private int inSome;

        void search(Station station, DayRun run, Clues clues) {
            int passers = Math.max(0, Math.min(PASSERS, station.passerCount));
            int sets = 1 << passers;
            setCount = 0;
            inAll = sets - 1;
            inSome = 0;
            for (int i = 0; i < KEYS * WEARS; i++) {
                tally[i] = 0;
            }
            for (int set = 0; set < sets; set++) {
                playOnNew(set, passers, station, run);
                if (clues.allSo(wear)) {
                    setCount++;
                    inAll &= set;
                    inSome |= set;
                    tallyWear();
                }
            }
        }

        int mostAlike(int key) {
            int most = 0;
            for (int w = 0; w < WEARS; w++) {
                int at = key * WEARS + w;
                if (at >= 0 && at < KEYS * WEARS) {
                    most = Math.max(most, tally[at]);
                }
            }
            return most;
        }

        private void playOnNew(int set, int passers, Station station, DayRun run) {
            for (int k = 0; k < KEYS; k++) {
                wear[k] = 0;
            }
            for (int p = 0; p < passers && p < PASSERS; p++) {
                if ((set >> p & 1) != 0) {
                    run.strikeAll(station.passers[p], p, wear);
                }
            }
        }

        private void tallyWear() {
            for (int k = 0; k < KEYS; k++) {
                int at = k * WEARS + wear[k];
                if (at >= 0 && at < KEYS * WEARS) {
                    tally[at]++;
                }
            }
        }
    }

    /** Lets days pass. What depends on the passers and on the minutes each alone is prepared once for many days. */
    private static final class DayRun {
        private final int[] beginOf = new int[PASSERS];
        private final int[] endOf = new int[PASSERS];
        private final int[] arrives = new int[PASSERS];
        private final int[] playsFor = new int[PASSERS];
        /* For a passer and a wear: the wear behind one strike. */
        private final int[] wearBehind = new int[PASSERS * WEARS];
        private final int[] facts = new int[FACTS];
        private final int[] begunOf = new int[TUNES];
        private final int[] line = new int[PASSERS];
        private int lineLength;
        private int player;
        private int joySum;
        private int begun;
        private int joyNow;
        private boolean joyKnown;
        private Station station;

        DayRun(Station first) {
            station = first;
        }

        void prepare(Station told, int minutes) {
            station = told;
            for (int p = 0; p < told.passerCount && p < PASSERS; p++) {
                Passer he = told.passers[p];
                arrives[p] = he.arrives;
                playsFor[p] = he.playsFor(minutes);
                facts[ABLE] = he.skill;
                facts[LONG] = playsFor[p];
                for (int wear = 0; wear < WEARS; wear++) {
                    facts[USED] = wear;
                    wearBehind[p * WEARS + wear] = Math.min(TOP_WEAR, wear + told.wearBy(facts));
                }
            }
        }

        void strikeAll(Passer he, int p, int[] wear) {
            for (int i = 0; i < he.struckCount && i < 2 * TUNE_KEYS; i++) {
                int key = he.struck[i];
                if (key >= 0 && key < wear.length) {
                    int at = p * WEARS + wear[key];
                    wear[key] = at >= 0 && at < PASSERS * WEARS ? wearBehind[at] : wear[key];
                }
            }
        }

        /** One day; those in the set of the absent do not come. Only the wear of the state changes. */
        void pass(State state, int absent) {
            joySum = 0;
            begun = 0;
            lineLength = 0;
            player = NONE;
            for (int p = 0; p < PASSERS; p++) {
                beginOf[p] = NONE;
                endOf[p] = NONE;
            }
            for (int t = 0; t < TUNES; t++) {
                begunOf[t] = 0;
            }
            for (int minute = 0; minute < MINUTES; minute++) {
                boolean isOpen = state.from <= minute && minute < state.to;
                standInLine(minute, absent);
                endPlaying(minute, isOpen);
                leaveLine(minute);
                if (player == NONE && isOpen) {
                    beginPlaying(minute, state.wear);
                }
                addJoy();
            }
            endPlaying(MINUTES, false);
        }

        private void standInLine(int minute, int absent) {
            for (int p = 0; p < station.passerCount && p < PASSERS; p++) {
                if (arrives[p] == minute && (absent >> p & 1) == 0 && lineLength >= 0 && lineLength < PASSERS) {
                    line[lineLength] = p;
                    lineLength++;
                    joyKnown = false;
                }
            }
        }

        private void endPlaying(int minute, boolean isOpen) {
            if (player < 0 || player >= PASSERS) {
                return;
            }
            if (!isOpen || minute - beginOf[player] >= playsFor[player]) {
                endOf[player] = minute;
                player = NONE;
            }
        }

        private void leaveLine(int minute) {
            int kept = 0;
            for (int i = 0; i < lineLength && i < PASSERS; i++) {
                int p = line[i];
                if (p >= 0 && p < PASSERS && minute - arrives[p] <= station.waits) {
                    line[kept] = p;
                    kept++;
                }
            }
            if (kept != lineLength) {
                joyKnown = false;
            }
            lineLength = kept;
        }

        private void beginPlaying(int minute, int[] wear) {
            for (int i = 0; i < lineLength && i < PASSERS; i++) {
                int p = line[i];
                if (p >= 0 && p < PASSERS && station.passers[p].daresBefore(lineLength - 1)) {
                    leaveLineAt(i);
                    player = p;
                    beginOf[p] = minute;
                    begun++;
                    strikeAll(station.passers[p], p, wear);
                    learnFacts(station.passers[p], wear);
                    return;
                }
            }
        }

        private void leaveLineAt(int at) {
            for (int i = Math.max(0, at); i + 1 < lineLength && i + 1 < PASSERS; i++) {
                line[i] = line[i + 1];
            }
            lineLength--;
        }

        /** No key wears while he plays, so that these stay until he ends. */
        private void learnFacts(Passer he, int[] wear) {
            int worn = 0;
            for (int i = 0; i < he.struckCount && i < 2 * TUNE_KEYS; i++) {
                int key = he.struck[i];
                worn += key >= 0 && key < wear.length ? wear[key] : 0;
            }
            facts[ABLE] = he.skill;
            facts[WORN] = worn;
            facts[SAME] = 0;
            if (he.tune >= 0 && he.tune < TUNES) {
                facts[SAME] = begunOf[he.tune];
                begunOf[he.tune]++;
            }
            joyKnown = false;
        }

        private void addJoy() {
            if (player == NONE) {
                return;
            }
            if (!joyKnown) {
                facts[OTHERS] = lineLength;
                joyNow = station.joyBy(facts);
                joyKnown = true;
            }
            joySum += joyNow;
        }
    }
}
