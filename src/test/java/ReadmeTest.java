import java.io.IOException;
import java.lang.reflect.Method;
import java.lang.reflect.Modifier;
import java.nio.file.Files;
import java.nio.file.Path;
import java.util.Set;
import java.util.TreeSet;
import java.util.regex.Matcher;
import java.util.regex.Pattern;
import java.util.stream.Stream;

/** README.md is true: its example stands here and answers so; it names every call of the face and every test, and no other. */
public final class ReadmeTest {
    private static final Check CHECK = new Check();
    private static final Path README = Path.of("README.md");
    private static final Path TESTS = Path.of("src/test/java");

    // README: what stands from here to the end of it stands in README.md, but for the blanks ahead
    static void tell(StationPiano piano, String text) {
        for (int i = 0; i < text.length(); i += 24) {
            long[] signs = new long[3];
            for (int j = i; j < i + 24 && j < text.length(); j++) {
                signs[(j - i) / 8] |= (long) text.charAt(j) << 56 - 8 * (j % 8);
            }
            piano.feed(signs[0], signs[1], signs[2]);
        }
    }

    static void example() {
        StationPiano piano = new StationPiano();
        tell(piano, "tune elise 4 3 4 3 4;  tune scale 0 2 4 5 7;  each 10;  price 8;  joys able - worn - same + 2 * others;");
        tell(piano, "passer child finger plays scale skill 1 shy 0 stays 20 comes 0;");
        tell(piano, "passer coat plain plays elise skill 9 shy 9 stays 8 comes 6;");
        tell(piano, "passer hat earner plays elise skill 6 shy 3 stays 15 comes 7;");
        answer("station()", piano.station(), 0);            // no fault: this is the station now
        answer("begins(0)", piano.begins(0), 0);            // the child begins at once
        answer("ends(0)", piano.ends(0), 10);               // ten minutes each
        answer("begins(1)", piano.begins(1), -1);           // too shy while another one waits
        answer("now(20)", piano.now(20), 2);                // who earns his living so plays
        answer("away()", piano.away(), 0b010);              // the one with the coat never plays
        answer("joy()", piano.joy(), -152);                 // joy of the day that comes; nothing has changed
        answer("day()", piano.day(), -152);                 // now it passes
        answer("key(4)", piano.key(4), 4);                  // and the keys are worn
        answer("mend()", piano.mend(), 8);                  // so much wear there was; the price is paid
        answer("count(8)", piano.count(8), 8);
        answer("undo()", piano.undo() ? 1 : 0, 1);          // the mending is taken back
        answer("count(8)", piano.count(8), 0);
        answer("best(0)", piano.best(0), 13);               // minutes each by which most joy is had
        tell(piano, "day; day; mend; open 5 to 50; day; drink;");
        answer("week()", piano.week(), 1 + 16 * 35);        // fault 1 at place 35: drink can't stand there
    }
    // README end

    private static void answer(String call, long got, long want) {
        CHECK.due("the example's " + call, got, want);
    }

    private static String pressed(String text) {
        return text.replaceAll("\\s+", " ").trim();
    }

    private static void exampleStands(String readme) throws IOException {
        String own = Files.readString(TESTS.resolve("ReadmeTest.java"));
        int from = own.indexOf('\n', own.indexOf("// README:"));
        int to = own.indexOf("// README end");
        CHECK.due("README.md has the example", from > 0 && to > from && pressed(readme).contains(pressed(own.substring(from, to))), true);
    }

    private static Set<String> allOf(String pattern, String text) {
        Set<String> found = new TreeSet<>();
        Matcher matcher = Pattern.compile(pattern).matcher(text);
        while (matcher.find()) {
            found.add(matcher.group(1));
        }
        return found;
    }

    /** A call is told at the beginning of a row, with its arguments. */
    private static void callsAreNamed(String readme) {
        Set<String> told = allOf("(?m)^\\| `([a-z]+)\\(", readme);
        for (Method method : StationPiano.class.getDeclaredMethods()) {
            if (Modifier.isPublic(method.getModifiers())) {
                CHECK.due("README.md tells " + method.getName(), told.remove(method.getName()), true);
            }
        }
        CHECK.due("README.md tells no other call " + told, told.size(), 0);
    }

    private static void testsAreNamed(String readme) throws IOException {
        Set<String> told = allOf("`([A-Za-z]+Test)\\b", readme);
        try (Stream<Path> files = Files.list(TESTS)) {
            for (Path file : (Iterable<Path>) files::iterator) {
                String name = file.getFileName().toString();
                if (name.endsWith("Test.java")) {
                    CHECK.due("README.md tells " + name, told.remove(name.substring(0, name.length() - 5)), true);
                }
            }
        }
        CHECK.due("README.md tells no other test " + told, told.size(), 0);
        CHECK.due(".ci/run is there", Files.isExecutable(Path.of(".ci/run")), true);
    }

    public static void main(String[] args) throws IOException {
        String readme = Files.readString(README);
        example();
        exampleStands(readme);
        callsAreNamed(readme);
        testsAreNamed(readme);
        CHECK.end("ReadmeTest");
    }
}
