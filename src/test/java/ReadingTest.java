/** Promises 2, 3 and 4: the tape, what is told on it, and each fault with its place. */
public final class ReadingTest {
    private static final Check CHECK = new Check();
    private static final String A = "tune a 0;";
    private static final String P = " plain plays a skill 0 shy 0 stays 1 comes 0;";

    private static void station(String text, int kind, int place) {
        StationPiano x = new StationPiano();
        Check.feed(x, text);
        CHECK.due("station of " + text, x.station(), kind == 0 ? 0 : kind + 16 * place);
        CHECK.due("the tape behind " + text, x.count(13), 0);
    }

    private static void week(String text, int kind, int place) {
        StationPiano x = new StationPiano();
        Check.feed(x, text);
        CHECK.due("week of " + text, x.week(), kind == 0 ? 0 : kind + 16 * place);
        CHECK.due("the tape behind " + text, x.count(13), 0);
    }

    private static void tape() {
        StationPiano x = new StationPiano();
        CHECK.due("feed of nothing", x.feed(0, 0, 0), 0);
        CHECK.due("feed of 9, 10, 11, 31, 32, 126, 127, 128", x.feed(0x090a0b1f207e7f80L, -1L, 0x2020202020202020L), 11);
        CHECK.due("~ is no token, the blanks are", x.station(), 1 + 16 * 2);
        for (int i = 0; i < 41; i++) {
            x.feed(0x2020202020202020L, 0x2020202020202020L, 0x2020202020202020L);
        }
        CHECK.due("984 signs", x.count(13), 984);
        CHECK.due("the 1000th is the last", x.feed(0x2020202020202020L, 0x2020202020202020L, 0x7878787878787878L), 1000);
        CHECK.due("what is beyond is left out", x.feed(0x78L, 0, 0), 1000);
        CHECK.due("a thousand blanks are a station", x.station(), 0);
        Check.feed(x, " ".repeat(999) + "xy");
        CHECK.due("only x is there", x.station(), 1 + 16 * 999);
        Check.feed(x, " ".repeat(996) + "day");
        CHECK.due("the end at the text's length", x.week(), 1 + 16 * 999);
        CHECK.due("the highest byte first", x.feed(0x6461793bL << 32, 0x6d656e643bL << 24, 0), 9);
        CHECK.due("day;mend;", x.week(), 0);
        CHECK.due("two lines", x.count(10), 2);
    }

    private static void lines() {
        station("", 0, 0);
        station(" \n ", 0, 0);
        station(";", 1, 0);
        station("day;", 1, 0);
        station("foo", 1, 0);
        station("tune", 1, 4);
        station("tune ", 1, 5);
        station("tune a", 1, 6);
        station("tune a 0", 1, 8);
        station("tune a 0 ", 1, 9);
        station("tunea0;", 1, 0);
        station("tune a0;", 0, 0);
        station("tune\na\n0\n;\n", 0, 0);
        station("tune a 0 1 2 3 4 5 6 7 8;", 0, 0);
        station("tune a 0 1 2 3 4 5 6 7 8 9;", 5, 25);
        station("tune a 0 1 2 3 4 5 6 7 8 12;", 4, 25);
        station("tune a 0 1 2 3 4 5 6 7 8 10000;", 1, 25);
        station("tune a 0011 0;", 0, 0);
        station("tune a 00000;", 1, 7);
        station("tune a 11 12;", 4, 10);
        station("tune aaaaaaaa 1;", 0, 0);
        station("tune aaaaaaaaa 1;", 1, 5);
        station("tune A 1;", 1, 5);
        station("tune a 1 , 2;", 1, 9);
        station("tune a 1 x;", 1, 9);
        station("tune a 1;tune a 2;", 3, 14);
        station("tune a 1;tune b 1;tune c 1;tune d 1;tune e 1;", 0, 0);
        station("tune a 1;tune b 1;tune c 1;tune d 1;tune e 1;tune", 5, 45);
        for (String kept : new String[] {"tune", "passer", "plays", "skill", "shy", "stays", "comes", "waits", "each", "open", "to",
            "price", "joys", "wears", "day", "mend", "plain", "finger", "drunk", "earner", "not", "and", "or"}) {
            station("tune " + kept + " 1;", 1, 5);
            station(A + "passer " + kept + P, 1, 16);
            station(A + "passer p plain plays " + kept + " skill 0", 1, 30);
        }
        for (String free : new String[] {"able", "worn", "others", "same", "used", "long"}) {
            station("tune " + free + " 1;passer p drunk plays " + free + " skill 0 shy 0 stays 1 comes 0;", 0, 0);
        }
    }

    private static void passers() {
        station(A + "passer p" + P, 0, 0);
        station(A + "passer a" + P, 3, 16);
        station(A + "passer p" + P + "passer p" + P, 3, 69);
        station(A + "passer p" + P + "tune p 1;", 3, 67);
        station(A + "passer p" + P + "passer q plain plays p", 2, 83);
        station(A + "passer p plain plays p", 2, 30);
        station("passer p plain plays a", 2, 21);
        station(A + "passer p plain plays 1", 1, 30);
        station(A + "passer p plain plays aaaaaaaaa", 1, 30);
        station(A + "passer p king", 1, 18);
        station(A + "passer p plain skill", 1, 24);
        station(A + "passer p plain plays a shy 1", 1, 32);
        station(A + "passer p plain plays a skill x", 1, 38);
        station(A + "passer p plain plays a skill 10", 4, 38);
        station(A + "passer p plain plays a skill 9 shy 10", 4, 44);
        station(A + "passer p plain plays a skill 9 shy 9 stays 0", 4, 52);
        station(A + "passer p plain plays a skill 9 shy 9 stays 31", 4, 52);
        station(A + "passer p plain plays a skill 9 shy 9 stays 30 comes 60", 4, 61);
        station(A + "passer p plain plays a skill 9 shy 9 stays 30 comes 59", 1, 63);
        station(A + "passer p plain plays a skill 9 shy 9 stays 30 comes 59;", 0, 0);
        station(A + "passer p plain plays a skill9shy9stays30comes59;", 0, 0);
        StringBuilder many = new StringBuilder(A);
        for (char c = 'p'; c < 'w'; c++) {
            many.append("passer ").append(c).append(P);
        }
        station(many.toString(), 0, 0);
        station(many + "passer", 5, many.length());
    }

    private static void onces() {
        station("waits 0;each 1;open 0 to 1;price 0;", 0, 0);
        station("waits 59;each 30;open 59 to 60;price 999;", 0, 0);
        station("waits 60;", 4, 6);
        station("each 0;", 4, 5);
        station("each 31;", 4, 5);
        station("open 60 to 60;", 4, 5);
        station("open 5 6;", 1, 7);
        station("open 5 to 5;", 4, 10);
        station("open 5 to 61;", 4, 10);
        station("price 1000;", 4, 6);
        station("price 10000;", 1, 6);
        station("price -1;", 1, 6);
        station("each 5 6;", 1, 7);
        station("waits 1;waits 1;", 3, 8);
        station("each 1;each", 3, 7);
        station("open 0 to 1;open x", 3, 12);
        station("price 1;price", 3, 8);
        station("joys 1;joys", 3, 7);
        station("wears 1;wears", 3, 8);
    }

    private static void laws() {
        station("joys able+worn-others*same;wears used+long+able;", 0, 0);
        station("joys;", 1, 4);
        station("joys long;", 1, 5);
        station("joys used;", 1, 5);
        station("wears worn;", 1, 6);
        station("wears others;", 1, 6);
        station("wears same;", 1, 6);
        station("joys foo;", 1, 5);
        station("joys 9999;", 0, 0);
        station("joys 10000;", 1, 5);
        station("joys -1;", 1, 5);
        station("joys 1 2;", 1, 7);
        station("joys 1<2<3;", 1, 8);
        station("joys 1=2<3;", 1, 8);
        station("joys 1<2 and 3=4 or 5;", 0, 0);
        station("joys (1<2)<3;", 0, 0);
        station("joys 1+;", 1, 7);
        station("joys and 1;", 1, 5);
        station("joys 1);", 1, 6);
        station("joys (1;", 1, 7);
        station("joys ();", 1, 6);
        station("joys not;", 1, 8);
        station("joys ((((1))));", 0, 0);
        station("joys (((((1)))));", 5, 10);
        station("joys ((((1)+2)));", 0, 0);
        station("joys not not not not 1;", 0, 0);
        station("joys not not not not not 1;", 5, 25);
        station("joys not(not(not 1));", 5, 17);
        station("joys (((((able", 5, 10);
        station("joys (((((not", 5, 10);
        station("joys ((((((", 5, 10);
        station("joys (((((used", 1, 10);
        station("joys ((((()", 1, 10);
        station("joys (((((", 1, 10);
        station("joys (((((12345", 1, 10);
    }

    private static void weeks() {
        week("", 0, 0);
        week("day;mend;each 1;each 30;open 0 to 60;open 59 to 60;", 0, 0);
        week("day", 1, 3);
        week("day 1;", 1, 4);
        week("mend day;", 1, 5);
        week("each 0;", 4, 5);
        week("each 31;", 4, 5);
        week("each;", 1, 4);
        week("open 60 to 60;", 4, 5);
        week("open 5 to 5;", 4, 10);
        week("open 5 to 61;", 4, 10);
        week("open 5 6;", 1, 7);
        week("waits 5;", 1, 0);
        week("tune a 1;", 1, 0);
        week("day;;", 1, 4);
        week("day;".repeat(40), 0, 0);
        for (String word : new String[] {"day", "mend", "each", "open"}) {
            week("day;".repeat(40) + word, 5, 160);
        }
        week("day;".repeat(40) + "foo;", 1, 160);
        week("day;".repeat(40) + ";", 1, 160);
    }

    private static void stays() {
        StationPiano x = Check.told(A + "passer p" + P + "each 7;open 3 to 9;waits 2;price 8;");
        x.day();
        x.find(0, 1);
        x.mark(2, false);
        Check.feed(x, "day;mend;");
        CHECK.due("a week", x.week(), 0);
        Check.feed(x, "day;foo;");
        CHECK.due("a week with a fault", x.week(), 1 + 16 * 4);
        CHECK.due("the week stays", x.count(10), 2);
        Check.feed(x, "tune b 1 2;waits 9;each 9;price 1;joys foo;");
        CHECK.due("a station with a fault", x.station(), 1 + 16 * 39);
        int[] want = {1, 1, 2, 7, 3, 9, 8, 1, 0, 0, 2, 1, 1, 0};
        for (int i = 0; i < want.length; i++) {
            CHECK.due("all stays: count " + i, x.count(i), want[i]);
        }
        CHECK.due("the mark stays", x.mark(2, true), true);
        x.day();
        Check.feed(x, "price 5;");
        CHECK.due("a new station", x.station(), 0);
        int[] fresh = {0, 0, 5, 30, 0, 60, 5, 0, 0, 0, 0, 0, 0, 0};
        for (int i = 0; i < fresh.length; i++) {
            CHECK.due("all is new: count " + i, x.count(i), fresh[i]);
        }
        CHECK.due("no mark", x.mark(2, true), false);
        CHECK.due("no wear", x.key(0), 0);
        CHECK.due("nothing to undo", x.undo(), false);
    }

    public static void main(String[] args) {
        tape();
        lines();
        passers();
        onces();
        laws();
        weeks();
        stays();
        CHECK.end("ReadingTest");
    }
}
