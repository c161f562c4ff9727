import java.lang.reflect.InvocationTargetException;
import java.lang.reflect.Method;
import java.lang.reflect.Modifier;
import java.util.Arrays;
import java.util.List;
import java.util.NoSuchElementException;

/**
 * Every call with arguments at, within and far beyond every edge, on pianos in several states: nothing is thrown but
 * what the document names, and neither a question nor a refused call changes anything that can be asked.
 */
public final class RefusalTest {
    private static final Check CHECK = new Check();
    private static final List<Integer> EDGES = List.of(Integer.MIN_VALUE, -10000, -9999, -2, -1, 0, 1, 2, 3, 4, 5, 6, 7, 8, 9, 10, 11,
        12, 13, 14, 30, 31, 59, 60, 61, 9999, 10000, Integer.MAX_VALUE);
    private static final List<Integer> FEWER = List.of(Integer.MIN_VALUE, -2, -1, 0, 1, 3, 4, 9, 10, Integer.MAX_VALUE);
    /* These may change what is there, if they are not refused. */
    private static final List<String> CHANGING = List.of("feed", "station", "week", "day", "mend", "each", "open", "undo", "find", "mark");
    private static final String FULL = "tune a 0 1 2 3 4 5 6 7 8;tune b 9 10 11;tune c 0;tune d 0 0 5;tune e 11;"
            + Check.who("p", "plain", "a", 9, 0, 30, 0) + Check.who("q", "finger", "b", 0, 9, 1, 59) + Check.who("r", "drunk", "c", 5, 9, 7, 3)
            + Check.who("s", "earner", "d", 6, 3, 30, 3) + Check.who("t", "plain", "e", 7, 4, 9, 20) + Check.who("u", "drunk", "a", 1, 5, 2, 40)
            + Check.who("v", "plain", "b", 2, 6, 11, 41) + "waits 9;each 8;price 999;joys able*3-worn+others-same;wears (used<8)+(8<long);";

    private static StationPiano piano(int state) {
        if (state == 0) {
            return new StationPiano();
        }
        StationPiano x = Check.told(FULL);
        Check.planned(x, "day;mend;each 3;open 5 to 50;day;");
        if (state == 1) {
            return x;
        }
        for (int i = 0; i < 20; i++) {
            x.day();
        }
        for (int i = 0; i < 8; i++) {
            x.find(i, i);
        }
        x.mark(1, false);
        Check.feed(x, "tune z 1 2 3;each 44;");
        return x;
    }

    private static int[] seen(StationPiano x) {
        int[] all = new int[14 + 12 + 7 + 5];
        for (int i = 0; i < 14; i++) {
            all[i] = x.count(i);
        }
        for (int i = 0; i < 12; i++) {
            all[14 + i] = x.key(i);
        }
        for (int i = 0; i < 7; i++) {
            all[26 + i] = x.passer(i, 5) * 100 + x.passer(i, 4);
        }
        for (int i = 0; i < 3; i++) {
            all[33 + i] = x.judged(i);
        }
        all[36] = x.sets(0);
        all[37] = x.joy();
        return all;
    }

    private static Object[] arguments(Class<?>[] types, List<Integer> edges, int which) {
        Object[] values = new Object[types.length];
        for (int i = 0; i < types.length; i++) {
            int edge = edges.get(which % edges.size());
            which /= edges.size();
            if (types[i] == boolean.class) {
                values[i] = edge > 0;
            } else if (types[i] == long.class) {
                values[i] = (long) edge;
            } else {
                values[i] = edge;
            }
        }
        return values;
    }

    /** Whether the call was refused; a question counts as refused, for it must change nothing either. */
    private static boolean call(StationPiano x, Method m, Object[] values) throws IllegalAccessException {
        String told = m.getName() + Arrays.toString(values);
        try {
            Object answer = m.invoke(x, values);
            return !CHANGING.contains(m.getName()) || Boolean.FALSE.equals(answer);
        } catch (InvocationTargetException e) {
            boolean may = Arrays.asList(m.getExceptionTypes()).contains(NoSuchElementException.class);
            CHECK.due(told + " throws " + e.getCause() + " as it may", may && e.getCause().getClass() == NoSuchElementException.class, true);
            return true;
        }
    }

    private static void every(Method m, int state) throws IllegalAccessException {
        Class<?>[] types = m.getParameterTypes();
        List<Integer> edges = types.length > 2 ? FEWER : EDGES;
        int many = 1;
        for (int i = 0; i < types.length; i++) {
            many *= edges.size();
        }
        StationPiano x = piano(state);
        int[] ahead = seen(x);
        for (int which = 0; which < many; which++) {
            Object[] values = arguments(types, edges, which);
            boolean refused = call(x, m, values);
            int[] behind = seen(x);
            if (refused) {
                CHECK.due(m.getName() + Arrays.toString(values) + " changes nothing", Arrays.equals(ahead, behind), true);
            }
            if (!Arrays.equals(ahead, behind)) {
                x = piano(state);
            }
        }
    }

    public static void main(String[] args) throws IllegalAccessException {
        for (Method m : StationPiano.class.getDeclaredMethods()) {
            for (int state = 0; state < 3 && Modifier.isPublic(m.getModifiers()); state++) {
                every(m, state);
            }
        }
        CHECK.end("RefusalTest");
    }
}
