import java.lang.reflect.Constructor;
import java.lang.reflect.Field;
import java.lang.reflect.Method;
import java.lang.reflect.Modifier;
import java.util.Arrays;
import java.util.List;
import java.util.NoSuchElementException;
import java.util.Set;
import java.util.TreeSet;

/** The public face is the document's, and nothing else of the class can be seen. */
public final class FaceTest {
    private static final List<String> FACE = List.of("int feed(long, long, long)", "int station()", "int week()",
        "int passer(int, int)", "int tune(int, int)", "int key(int)", "int begins(int)", "int ends(int)", "int now(int)",
        "int away()", "int joy()", "int day()", "int mend()", "boolean each(int)", "boolean open(int, int)", "boolean undo()",
        "int judged(int)!", "int best(int)!", "int hours(int)", "int when(int, int)!", "int lasts(int)", "int without(int)!",
        "int rarer(int)", "int dare(int)", "int strikes(int, int)", "boolean find(int, int)", "int sets(int)", "int look()",
        "int share(int)", "int rests(int, int, int, int)!", "int rule(int, int)!", "int months(int, int, int)!",
        "boolean mark(int, boolean)", "int count(int)");

    private static String told(Method m) {
        StringBuilder text = new StringBuilder(m.getReturnType() + " " + m.getName() + "(");
        for (Class<?> c : m.getParameterTypes()) {
            text.append(text.charAt(text.length() - 1) == '(' ? "" : ", ").append(c);
        }
        return text + ")" + (Arrays.asList(m.getExceptionTypes()).contains(NoSuchElementException.class) ? "!" : "");
    }

    public static void main(String[] args) {
        Check check = new Check();
        Class<?> c = StationPiano.class;
        Set<String> seen = new TreeSet<>();
        Set<String> names = new TreeSet<>();
        for (Method m : c.getDeclaredMethods()) {
            if (Modifier.isPublic(m.getModifiers())) {
                seen.add(told(m));
                names.add(m.getName());
                check.due(m + " is of an object", Modifier.isStatic(m.getModifiers()), false);
            } else {
                check.due(m + " is private", Modifier.isPrivate(m.getModifiers()), true);
            }
        }
        for (Method m : c.getDeclaredMethods()) {
            check.due(m + " bears a public name", Modifier.isPrivate(m.getModifiers()) && names.contains(m.getName()), false);
        }
        for (String method : FACE) {
            check.due(method + " is there", seen.remove(method), true);
        }
        check.due("no other public method " + seen, seen.size(), 0);
        for (Constructor<?> k : c.getDeclaredConstructors()) {
            check.due(k + " is the one", Modifier.isPublic(k.getModifiers()) && k.getParameterCount() == 0, true);
        }
        for (Field f : c.getDeclaredFields()) {
            boolean none = f.getName().equals("NONE");
            check.due(f + " is NONE or private", none ? Modifier.isPublic(f.getModifiers()) : Modifier.isPrivate(f.getModifiers()), true);
            check.due(f + " is final if static", !Modifier.isStatic(f.getModifiers()) || Modifier.isFinal(f.getModifiers()), true);
        }
        for (Class<?> inner : c.getDeclaredClasses()) {
            check.due(inner + " is private and static",
                Modifier.isPrivate(inner.getModifiers()) && Modifier.isStatic(inner.getModifiers()), true);
        }
        check.due("the class is public and final", c.getModifiers(), Modifier.PUBLIC | Modifier.FINAL);
        check.end("FaceTest");
    }
}
