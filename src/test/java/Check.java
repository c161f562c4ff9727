import java.util.NoSuchElementException;

/** What the tests share: answers that are due, texts that are fed, calls that throw. */
final class Check {
    interface Call {
        int of();
    }

    private int wrong = 0;
    private int asked = 0;

    void due(String call, long got, long want) {
        asked++;
        if (got != want) {
            wrong++;
            System.out.println(call + " answered " + got + ", due is " + want);
        }
    }

    void due(String call, boolean got, boolean want) {
        due(call, got ? 1 : 0, want ? 1 : 0);
    }

    void none(String call, Call asks) {
        int thrown = 0;
        try {
            asks.of();
        } catch (NoSuchElementException e) {
            thrown = e.getClass() == NoSuchElementException.class ? 1 : 0;
        }
        due(call + " throws", thrown, 1);
    }

    static int feed(StationPiano x, String text) {
        int length = x.count(13);
        for (int i = 0; i < text.length(); i += 24) {
            long[] words = new long[3];
            for (int j = 0; j < 24; j++) {
                long sign = i + j < text.length() ? text.charAt(i + j) & 255 : 0;
                words[j / 8] |= sign << 56 - j % 8 * 8;
            }
            length = x.feed(words[0], words[1], words[2]);
        }
        return length;
    }

    static StationPiano told(String text) {
        StationPiano x = new StationPiano();
        feed(x, text);
        if (x.station() != 0) {
            throw new IllegalStateException("not a station: " + text);
        }
        return x;
    }

    void end(String name) {
        System.out.println(name + ": " + asked + " answers, " + wrong + " not as due");
        if (wrong != 0) {
            System.exit(1);
        }
    }
}
