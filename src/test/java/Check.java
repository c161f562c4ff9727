import java.io.IOException;
import java.nio.file.Files;
import java.nio.file.Path;
import java.util.BitSet;
import java.util.NoSuchElementException;

/** What the tests share: answers that are due, texts that are fed, calls that throw, sentences of the document. */
final class Check {
    interface Call {
        int of();
    }

    private static final Path DOCUMENT = Path.of("../shared/DOC.md");
    /** Arguments that are wrong for every call that takes a number from 0 or 1 on. */
    static final int[] FAR = {Integer.MIN_VALUE, -2, Integer.MAX_VALUE};

    private final String document = read();
    private final BitSet named = new BitSet();
    private String heading = "";
    private int wrong = 0;
    private int asked = 0;

    private static String read() {
        try {
            return Files.exists(DOCUMENT) ? Files.readString(DOCUMENT).replaceAll("\\s+", " ") : null;
        } catch (IOException e) {
            return null;
        }
    }

    /** What is asked from here on belongs to this promise, by this sentence of the document. */
    void of(int promise, String sentence) {
        heading = "promise " + promise + " (" + sentence + "): ";
        named.set(promise);
        if (document != null) {
            due("this stands in the document", document.contains(sentence), true);
        }
    }

    /** Each of these promises has had its sentences. */
    void namesAll(int first, int last) {
        for (int promise = first; promise <= last; promise++) {
            due("promise " + promise + " is named", named.get(promise), true);
        }
    }

    void due(String call, long got, long want) {
        asked++;
        if (got != want) {
            wrong++;
            System.out.println(heading + call + " answered " + got + ", due is " + want);
        }
    }

    void due(String call, boolean got, boolean want) {
        due(call, got ? 1 : 0, want ? 1 : 0);
    }

    void none(String call, Call asks) {
        int thrown = 0;
        try {
            asks.of();
        } catch (NoSuchElementException e) {
            thrown = e.getClass() == NoSuchElementException.class ? 1 : 0;
        }
        due(call + " throws", thrown, 1);
    }

    static int feed(StationPiano x, String text) {
        int length = x.count(13);
        for (int i = 0; i < text.length(); i += 24) {
            long[] words = new long[3];
            for (int j = 0; j < 24; j++) {
                long sign = i + j < text.length() ? text.charAt(i + j) & 255 : 0;
                words[j / 8] |= sign << 56 - j % 8 * 8;
            }
            length = x.feed(words[0], words[1], words[2]);
        }
        return length;
    }

    static StationPiano told(String text) {
        StationPiano x = new StationPiano();
        feed(x, text);
        if (x.station() != 0) {
            throw new IllegalStateException("not a station: " + text);
        }
        return x;
    }

    static StationPiano planned(StationPiano x, String week) {
        feed(x, week);
        if (x.week() != 0) {
            throw new IllegalStateException("not a week: " + week);
        }
        return x;
    }

    /** The line of one passer; his numbers: skill, shyness, how long he stays, when he comes. */
    static String who(String name, String kind, String tune, int skill, int shy, int stays, int comes) {
        return "passer " + name + " " + kind + " plays " + tune + " skill " + skill + " shy " + shy + " stays " + stays
                + " comes " + comes + ";";
    }

    void end(String name) {
        System.out.println(name + ": " + asked + " answers, " + wrong + " not as due");
        if (wrong != 0) {
            System.exit(1);
        }
    }
}
