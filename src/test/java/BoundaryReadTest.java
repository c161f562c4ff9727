/** The boundary cases that the document names for what reads the tape: promises 2, 3 and 4. */
public final class BoundaryReadTest {
    private static final Check CHECK = new Check();
    private static final long BLANKS = 0x2020202020202020L;
    private static final String A = "tune a 0;";
    private static final String P = " plain plays a skill 0 shy 0 stays 1 comes 0;";
    private static final String[] KEPT = {"tune", "passer", "plays", "skill", "shy", "stays", "comes", "waits", "each",
        "open", "to", "price", "joys", "wears", "day", "mend", "plain", "finger", "drunk", "earner", "not", "and", "or"};
    private static final String[] ONCE = {"waits 1", "each 1", "open 0 to 1", "price 1", "joys 1", "wears 1"};

    private static int read(String text, boolean asWeek) {
        StationPiano x = new StationPiano();
        Check.feed(x, text);
        int answer = asWeek ? x.week() : x.station();
        CHECK.due("signs left of " + text, x.count(13), 0);
        return answer;
    }

    private static void good(String text) {
        CHECK.due("the station " + text, read(text, false), 0);
    }

    /** A ^ stands ahead of the wrong token. */
    private static void bad(int kind, String text) {
        CHECK.due("the station " + text, read(text.replace("^", ""), false), kind + 16 * text.indexOf('^'));
    }

    private static void goodWeek(String text) {
        CHECK.due("the week " + text, read(text, true), 0);
    }

    private static void badWeek(int kind, String text) {
        CHECK.due("the week " + text, read(text.replace("^", ""), true), kind + 16 * text.indexOf('^'));
    }

    private static void feedSigns() {
        CHECK.of(2, "Up to 24 signs come behind the TAPE");
        StationPiano x = new StationPiano();
        CHECK.due("nothing", x.feed(0, 0, 0), 0);
        CHECK.due("24", x.feed(BLANKS, BLANKS, BLANKS), 24);
        CHECK.due("24 more", x.feed(BLANKS, BLANKS, BLANKS), 48);
        CHECK.due("nothing more", x.feed(0, 0, 0), 48);
        for (int place = 0; place < 24; place++) {
            long[] words = new long[3];
            words[place / 8] = 32L << 56 - place % 8 * 8;
            CHECK.due("one alone at " + place, x.feed(words[0], words[1], words[2]), 49 + place);
        }
        CHECK.of(2, "others than 10 and 32 .. 126");
        for (int sign = 0; sign < 256; sign++) {
            StationPiano y = new StationPiano();
            int want = sign == 10 || sign >= 32 && sign <= 126 ? 1 : 0;
            CHECK.due("the sign " + sign, y.feed((long) sign << 56, 0, 0), want);
            CHECK.due("the sign " + sign + " as the last", y.feed(0, 0, sign), 2 * want);
        }
        CHECK.due("no sign at all", new StationPiano().feed(-1, Long.MIN_VALUE, Long.MAX_VALUE), 0);
    }

    private static void feedOrder() {
        CHECK.of(2, "the bytes of a, b, c, of each the highest first");
        StationPiano x = new StationPiano();
        CHECK.due("three words", x.feed(0x74756e6520612030L, 0x3b74756e65206220L, 0x313b74756e652061L), 24);
        CHECK.due("tune a 0;tune b 1;tune a", x.station(), 3 + 16 * 23);
        x.feed(0x0074017502036eL, 0x65042061207f3080L, 0x3bff0a0900ffffffL);
        CHECK.due("what is left out leaves no gap", x.count(13), 10);
        CHECK.due("tune a 0;", x.station(), 0);
        CHECK.due("one tune", x.count(0), 1);
    }

    private static void feedFull() {
        CHECK.of(2, "and what is beyond 1,000, are left out: how many there are");
        StationPiano x = new StationPiano();
        for (int round = 0; round < 2; round++) {
            for (int i = 1; i <= 41; i++) {
                CHECK.due(24 * i + " signs", x.feed(BLANKS, BLANKS, BLANKS), 24 * i);
            }
            CHECK.due("999", x.feed(BLANKS, 0x20202020202020L, 0), 999);
            CHECK.due("the thousandth is one of two", x.feed(0x7b7c00000000L, 0, 0), 1000);
            CHECK.due("none is beyond", x.feed(BLANKS, BLANKS, BLANKS), 1000);
            CHECK.due("count", x.count(13), 1000);
            CHECK.due("the first of the two is there", round == 0 ? x.station() : x.week(), 1 + 16 * 999);
            CHECK.due("then there is room again", x.count(13), 0);
        }
        for (int i = 0; i < 41; i++) {
            x.feed(BLANKS, BLANKS, BLANKS);
        }
        CHECK.due("16 of 24 fit", x.feed(BLANKS, BLANKS, 0x7878787878787878L), 1000);
        CHECK.due("none of the last eight", x.station(), 0);
    }

    private static void words() {
        CHECK.of(3, "WORDS (letters a .. z, 8 at most)");
        good("tune a 0;");
        good("tune zzzzzzzz 0;");
        bad(1, "tune ^zzzzzzzzz 0;");
        bad(1, "tune ^aaaaaaaaaaaaaaaa 0;");
        bad(1, "^tunetunetune 0;");
        bad(1, "^tunea 0;");
        good("tune abcdefgh 0;tune abcdefgi 0;tune abcdefg 0;");
        good("tune aa 0;tune a 0;tune aaa 0;");
        CHECK.of(3, "NUMBERS (1 to 4 digits; a letter may stand right behind)");
        good("price 0;");
        good("price 0999;");
        good("price 0000;");
        bad(1, "price ^00000;");
        bad(1, "price ^99999;");
        bad(1, "price ^" + "0".repeat(300) + ";");
        bad(4, "price ^9999;");
        good("open 1to 2;");
        good("open 0001to0002;");
        good("joys 9999;");
        bad(1, "joys ^10000;");
        bad(1, "each 5^x;");
    }

    private static void signs() {
        CHECK.of(3, "TOKENS, each as long as can be, blanks (10, 32) between where one likes");
        good("");
        good(" ");
        good("\n");
        good("\n \n tune\na\n1 2\n;\n\n");
        good("tune a1;");
        good("tune a 1 2;");
        bad(4, "tune a ^12;");
        bad(1, "^tu ne a 1;");
        bad(1, "joys ^no t 1;");
        CHECK.of(3, "the signs ( ) < = + - * ; All else");
        for (char c = 33; c < 127; c++) {
            boolean token = c >= 'a' && c <= 'z' || c >= '0' && c <= '9' || "()<=+-*;".indexOf(c) >= 0;
            if (!token) {
                CHECK.due("each 5 " + c, read("each 5 " + c, false), 1 + 16 * 7);
                CHECK.due("alone " + c, read(" " + c, false), 1 + 16);
            }
        }
        good("joys (1<2)=3+4-5*6;");
        bad(1, "^TUNE a 0;");
        bad(1, "tune ^A 0;");
        bad(1, "tune a^B 0;");
        bad(1, "tune a^_b 0;");
        CHECK.of(3, "(a longer WORD or NUMBER, too, at its first sign)");
        bad(1, "each ^123456;");
        bad(1, "each 5;  ^abcdefghijkl");
    }

    private static void tunes() {
        CHECK.of(3, "tune: 5 at most");
        String five = "tune a 1;tune b 1;tune c 1;tune d 1;tune e 1;";
        good(five);
        bad(5, five + "^tune f 1;");
        bad(5, five + "^tune");
        bad(5, five + "^tune a 1;");
        bad(5, five + "waits 5;^tune f");
        CHECK.of(3, "1 to 9 KEYS 0 to 11");
        bad(1, "tune a^;");
        bad(1, "tune a ^");
        good("tune a 0;");
        good("tune a 11;");
        bad(4, "tune a ^12;");
        bad(4, "tune a 0 ^12;");
        bad(4, "tune a ^9999;");
        bad(1, "tune a ^-1;");
        good("tune a 0 1 2 3 4 5 6 7 8;");
        good("tune a 11 11 11 11 11 11 11 11 11;");
        bad(5, "tune a 0 1 2 3 4 5 6 7 8 ^9;");
        bad(5, "tune a 0 1 2 3 4 5 6 7 8 ^0");
        bad(5, "tune a 0 0 0 0 0 0 0 0 0 ^0 12 0;");
        bad(1, "tune a 0 1 2 3 4 5 6 7 8^");
        bad(1, "tune ^0;");
        bad(1, "tune^");
    }

    private static void passers() {
        CHECK.of(3, "passer: 7 at most");
        StringBuilder seven = new StringBuilder(A);
        for (char c = 'p'; c <= 'v'; c++) {
            seven.append("passer ").append(c).append(P);
        }
        good(seven.toString());
        bad(5, seven + "^passer w" + P);
        bad(5, seven + "^passer");
        bad(5, seven + "^passer p" + P);
        CHECK.of(3, "KIND: plain, finger, drunk, earner");
        for (String kind : new String[] {"plain", "finger", "drunk", "earner"}) {
            good(A + "passer p " + kind + " plays a skill 0 shy 0 stays 1 comes 0;");
        }
        for (String word : KEPT) {
            if (!" plain finger drunk earner ".contains(" " + word + " ")) {
                bad(1, A + "passer p ^" + word + " plays a skill 0 shy 0 stays 1 comes 0;");
            }
        }
        bad(1, A + "passer p ^0 plays a skill 0 shy 0 stays 1 comes 0;");
        bad(1, A + "passer p ^able plays a skill 0 shy 0 stays 1 comes 0;");
        bad(1, A + "passer p ^sober plays a skill 0 shy 0 stays 1 comes 0;");
        bad(1, A + "passer p ^plays a skill 0 shy 0 stays 1 comes 0;");
        bad(1, A + "passer p ^a plays a skill 0 shy 0 stays 1 comes 0;");
        CHECK.of(3, "plays a TUNE told");
        bad(2, "passer p plain plays ^a skill 0 shy 0 stays 1 comes 0;" + A);
        bad(2, A + "passer p plain plays ^b skill 0 shy 0 stays 1 comes 0;");
        bad(2, A + "passer p plain plays ^p skill 0 shy 0 stays 1 comes 0;");
        bad(2, A + "passer p plain plays ^aa skill 0 shy 0 stays 1 comes 0;");
        good(A + "passer p" + P + "tune b 1;passer q plain plays b skill 0 shy 0 stays 1 comes 0;");
    }

    private static void passerNumbers() {
        String p = A + "passer p plain plays a ";
        CHECK.of(3, "skill 0 to 9");
        good(p + "skill 0 shy 0 stays 1 comes 0;");
        good(p + "skill 9 shy 0 stays 1 comes 0;");
        bad(4, p + "skill ^10 shy 0 stays 1 comes 0;");
        CHECK.of(3, "shy 0 to 9");
        good(p + "skill 0 shy 9 stays 1 comes 0;");
        bad(4, p + "skill 0 shy ^10 stays 1 comes 0;");
        CHECK.of(3, "stays 1 to 30 minutes");
        bad(4, p + "skill 0 shy 0 stays ^0 comes 0;");
        good(p + "skill 0 shy 0 stays 30 comes 0;");
        bad(4, p + "skill 0 shy 0 stays ^31 comes 0;");
        CHECK.of(3, "comes at a minute 0 to 59");
        good(p + "skill 0 shy 0 stays 1 comes 59;");
        bad(4, p + "skill 0 shy 0 stays 1 comes ^60;");
        bad(4, p + "skill 0 shy 0 stays 1 comes ^9999;");
        CHECK.of(3, "skill N shy N stays N comes N ;");
        bad(1, p + "^shy 0 skill 0 stays 1 comes 0;");
        bad(1, p + "skill 0 ^stays 1 shy 0 comes 0;");
        bad(1, p + "skill 0 shy 0 stays 1^;");
        bad(1, p + "skill 0 shy 0 stays 1 comes^;");
        bad(1, p + "skill 0 shy 0 stays 1 comes 0^");
        bad(1, p + "skill 0 shy 0 stays 1 comes 0 ^0;");
    }

    private static void settings() {
        CHECK.of(3, "waits 0 to 59 minutes (5).");
        good("waits 0;");
        good("waits 59;");
        bad(4, "waits ^60;");
        CHECK.due("untold", Check.told("each 1;").count(2), 5);
        CHECK.due("told", Check.told("waits 59;").count(2), 59);
        CHECK.of(3, "each 1 to 30 minutes (30).");
        good("each 1;");
        good("each 30;");
        bad(4, "each ^0;");
        bad(4, "each ^31;");
        CHECK.due("untold", Check.told("waits 1;").count(3), 30);
        CHECK.of(3, "price 0 to 999 (60)");
        good("price 0;");
        good("price 999;");
        bad(4, "price ^1000;");
        CHECK.due("untold", Check.told("waits 1;").count(6), 60);
        CHECK.of(3, "open from a minute 0 to 59 to one above it, 60 at most (0 to 60)");
        good("open 0 to 1;");
        good("open 0 to 60;");
        good("open 59 to 60;");
        bad(4, "open ^60 to 60;");
        bad(4, "open ^60 to 61;");
        bad(4, "open 59 to ^59;");
        bad(4, "open 59 to ^61;");
        bad(4, "open 0 to ^0;");
        bad(4, "open 30 to ^29;");
        bad(4, "open 0 to ^61;");
        bad(1, "open 0 ^1;");
        bad(1, "open 0 to^;");
        CHECK.due("untold from", Check.told("waits 1;").count(4), 0);
        CHECK.due("untold to", Check.told("waits 1;").count(5), 60);
    }

    private static void onces() {
        CHECK.of(3, "waits, each, open, price, joys, wears: once each.");
        for (String line : ONCE) {
            good(line + ";");
            bad(3, line + ";^" + line + ";");
            bad(3, line + ";" + A + "^" + line.replaceAll(" .*", ""));
            for (String other : ONCE) {
                if (!other.equals(line)) {
                    good(line + ";" + other + ";");
                }
            }
        }
        good(String.join(";", ONCE) + ";");
        CHECK.of(3, "STATION: any number of");
        good("");
        bad(1, "^;");
        bad(1, "each 1;^;");
        for (String word : KEPT) {
            if (!" tune passer waits each open price joys wears ".contains(" " + word + " ")) {
                bad(1, "^" + word + ";");
            }
        }
    }

    private static void names() {
        CHECK.of(3, "A NAME is another WORD than");
        for (String word : KEPT) {
            bad(1, "tune ^" + word + " 0;");
            bad(1, A + "passer ^" + word + P);
            bad(1, A + "passer p plain plays ^" + word + " skill 0 shy 0 stays 1 comes 0;");
            good("tune " + word + "x 0;");
        }
        for (String fact : new String[] {"able", "worn", "others", "same", "used", "long"}) {
            good("tune " + fact + " 0;passer p plain plays " + fact + " skill 0 shy 0 stays 1 comes 0;");
            good(A + "passer " + fact + P);
        }
        bad(1, "tune ^5 0;");
        bad(1, "tune ^; 0;");
        CHECK.of(3, "no two (TUNES, PASSERS) are alike");
        bad(3, A + "tune ^a 1;");
        bad(3, A + "passer p" + P + "passer ^p" + P);
        bad(3, A + "passer ^a" + P);
        bad(3, A + "passer p" + P + "tune ^p 1;");
        good(A + "passer p" + P + "passer q" + P + "tune b 1;");
    }

    private static void expressions() {
        CHECK.of(3, "TEST: SUM, or SUM < SUM, or SUM = SUM");
        good("joys 1<2;");
        good("joys 1=2;");
        bad(1, "joys 1<2^<3;");
        bad(1, "joys 1<2^=3;");
        bad(1, "joys 1=2^=3;");
        good("joys 1<2 and 2<3 or 3=4 and 5;");
        bad(1, "joys 1<^;");
        bad(1, "joys ^<1;");
        bad(1, "joys 1 and^;");
        bad(1, "joys 1 or ^and 1;");
        CHECK.of(3, "SUM: PRODUCT { + or - PRODUCT }");
        bad(1, "joys ^-1;");
        bad(1, "joys 1+^+1;");
        bad(1, "joys 1-^;");
        CHECK.of(3, "PRODUCT: PART { * PART }");
        bad(1, "joys 1*^;");
        bad(1, "joys 1*^-1;");
        bad(1, "joys ^*1;");
        CHECK.of(3, "PART: a NUMBER, a fact, not PART, ( E )");
        bad(1, "joys^;");
        bad(1, "joys ^");
        bad(1, "joys not^;");
        bad(1, "joys (^);");
        bad(1, "joys (1^;");
        bad(1, "joys 1^);");
        bad(1, "joys 1 ^2;");
        bad(1, "joys 1 ^not 2;");
        bad(1, "joys 1 ^(2);");
        bad(1, "joys 1 ^able;");
        bad(1, "joys ^foo;");
        good("joys 0;");
        good("joys 1*not 2;");
        CHECK.of(3, "Facts: able");
        good("joys able;wears able;");
        CHECK.of(3, "of joys worn");
        good("joys worn;");
        good("joys others;");
        good("joys same;");
        bad(1, "wears ^worn;");
        bad(1, "wears ^others;");
        bad(1, "wears ^same;");
        CHECK.of(3, "of wears used");
        good("wears used;");
        good("wears long;");
        bad(1, "joys ^used;");
        bad(1, "joys ^long;");
        for (String law : new String[] {"joys", "wears"}) {
            bad(1, law + " ^foo;");
            bad(1, law + " ^ables;");
            for (String word : KEPT) {
                if (!word.equals("not")) {
                    bad(1, law + " ^" + word + ";");
                }
            }
        }
    }

    private static void depths() {
        CHECK.of(3, "no PART lies within 5 of not and ( )");
        good("joys ((((1))));");
        bad(5, "joys (((((^1)))));");
        good("joys not not not not 1;");
        bad(5, "joys not not not not not ^1;");
        good("joys not(not(1));");
        bad(5, "joys not(not(not ^1));");
        bad(5, "joys (not(not(^1)));");
        good("joys ((((1))))+((((2))))*not not not not 3;");
        good("joys ((((1<2 and 3+4*5))));");
        bad(5, "joys ((((1+not ^able))));");
        bad(5, "joys ((((1*(^2)))));");
        good("wears ((((used))));");
        bad(5, "wears (((((^used)))));");
        CHECK.of(3, "not, or a PART, within 5 others");
        bad(5, "joys (((((^not 1)))));");
        bad(5, "joys not not not not not ^not 1;");
        bad(5, "joys (((((^(1))))));");
        bad(5, "joys (((((^9999)))));");
        bad(5, "joys (((((^worn)))));");
        bad(5, "joys (((((^((((((((((((1;");
    }

    private static void firstAndLeast() {
        CHECK.of(3, "the end being one at the text's length");
        bad(1, "tune^");
        bad(1, "tune \n ^");
        bad(1, "each 5^");
        bad(1, "joys (((((^");
        bad(1, "joys ((((( ^");
        bad(1, "each 5" + " ".repeat(994) + "^");
        CHECK.of(3, "of the first token from the left that is wrong the least");
        bad(4, "each ^0;each 0;foo");
        bad(3, "each 1;^each 99;foo");
        bad(1, "^foo each 0;");
        bad(1, "waits 1 ^waits 2;");
        bad(1, "tune a 0 ^tune a 0;");
        bad(1, "each ^each 0;");
        bad(4, "tune a 0 0 0 0 0 0 0 0 0 ^12;");
        bad(1, "tune a 0 0 0 0 0 0 0 0 0 ^12345;");
        bad(1, "tune a 0 0 0 0 0 0 0 0 0 ^a;");
        bad(1, "joys (((((^used");
        bad(1, "wears (((((^worn");
        bad(1, "joys (((((^)");
        bad(1, "joys (((((^12345");
        bad(1, "joys (((((^and");
        bad(1, "joys not not not not not^;");
        bad(1, "tune a 0;tune b 0;tune c 0;tune d 0;tune e 0 ^tune");
        bad(1, A + "passer p plain plays ^abcdefghi");
        bad(1, "open 5 ^99 to 3;");
    }

    private static void thousandSigns() {
        CHECK.of(3, "The TAPE has at most 1,000 signs");
        String law = "joys 1" + "+1".repeat(496) + ";";
        CHECK.due("999 signs", law.length(), 999);
        good(law);
        good(law + " ");
        good(" " + law);
        CHECK.due("1,000 signs, the ; left out", read("  " + law, false), 1 + 16 * 1000);
        good("tune a 0;" + " ".repeat(991) + "foo");
        bad(1, "tune a 0;" + " ".repeat(990) + "^foo");
    }

    private static void seen(StationPiano x, String when, int[] counts) {
        for (int i = 0; i < counts.length; i++) {
            CHECK.due(when + ": count(" + i + ")", x.count(i), counts[i]);
        }
    }

    private static void faultLeavesAll() {
        CHECK.of(3, "0, or its FAULT (all stays then)");
        StationPiano x = Check.told(A + "passer p" + P + "waits 2;each 7;open 0 to 9;price 8;joys 5;wears 9;");
        x.day();
        x.mend();
        x.find(0, 9);
        x.mark(2, false);
        Check.planned(x, "day;mend;");
        String[] texts = {"foo", "tune b 1 2;waits 9;each 9;open 1 to 2;price 1;joys 7;wears 1;passer q plain plays b skill 1 shy 1 stays 9 comes 9;x",
            "joys 1;joys", "wears (1", A + "passer p" + P + "each 31;"};
        for (String text : texts) {
            Check.feed(x, text);
            CHECK.due("a fault in " + text, x.station() != 0, true);
            seen(x, "behind " + text, new int[] {1, 1, 2, 7, 0, 9, 8, 1, 8, 1, 2, 1, 2, 0});
            CHECK.due("the law of joy", x.joy(), 5);
            CHECK.due("the tune", x.tune(0, 0), 0);
            CHECK.due("no more of it", x.tune(0, 1), -1);
            CHECK.due("the passer", x.passer(0, 5), 0);
            CHECK.due("wear", x.key(0), 9);
            CHECK.due("the week", x.judged(2), 8);
            CHECK.due("what is found", x.sets(1), 1);
        }
        CHECK.due("the mark", x.mark(2, true), true);
    }

    private static void newStation() {
        CHECK.of(3, "day 0, no WEAR, nothing paid, each and open as told, no WEEK, nothing FOUND, nothing can be undone, no MARK is there");
        StationPiano x = Check.told(A + "passer p" + P + "waits 2;each 7;open 0 to 9;price 8;joys 5;wears 9;");
        x.day();
        x.mend();
        x.each(8);
        x.open(1, 2);
        x.find(0, 9);
        for (int i = 0; i < 4; i++) {
            x.mark(i, false);
        }
        Check.planned(x, "day;mend;");
        Check.feed(x, "tune b 3;each 9;open 4 to 5;");
        CHECK.due("another station", x.station(), 0);
        seen(x, "a new one", new int[] {1, 0, 5, 9, 4, 5, 60, 0, 0, 0, 0, 0, 0, 0});
        for (int key = 0; key < 12; key++) {
            CHECK.due("no wear", x.key(key), 0);
        }
        CHECK.due("nothing can be undone", x.undo(), false);
        for (int i = 0; i < 4; i++) {
            CHECK.due("no mark " + i, x.mark(i, true), false);
        }
        CHECK.due("no week's price", x.judged(2), 0);
        Check.feed(x, "");
        CHECK.due("an empty station", x.station(), 0);
        seen(x, "an empty one", new int[] {0, 0, 5, 30, 0, 60, 60, 0, 0, 0, 0, 0, 0, 0});
    }

    private static void nothingIsLeft() {
        CHECK.of(3, "The TAPE is read as a STATION");
        StationPiano x = Check.told(A + "passer p" + P + "joys 7;wears 5;waits 9;");
        Check.feed(x, "passer p plain plays a");
        CHECK.due("an older tune is not told", x.station(), 2 + 16 * 21);
        Check.feed(x, "tune b 1;each 5;joys 3;wears 2;x");
        CHECK.due("a fault", x.station(), 1 + 16 * 31);
        Check.feed(x, "passer p plain plays b");
        CHECK.due("nor is one of a text with a fault", x.station(), 2 + 16 * 21);
        Check.feed(x, "tune b 1;each 4;joys able+2;wears 3;passer a plain plays b skill 1 shy 0 stays 1 comes 0;");
        CHECK.due("names and settings are free again", x.station(), 0);
        CHECK.due("its own law of joy", x.joy(), 3);
        Check.feed(x, A + "passer p" + P);
        CHECK.due("without laws", x.station(), 0);
        CHECK.due("without joys: able - worn - same", x.day(), -1);
        CHECK.due("without wears: 1", x.key(0), 1);
        Check.feed(x, A);
        x.station();
        CHECK.due("what is read is taken", x.station(), 0);
        CHECK.due("the empty tape is an empty station", x.count(0), 0);
        for (int round = 0; round < 3; round++) {
            Check.feed(x, A + "passer p" + P + "waits 9;each 9;open 3 to 9;price 9;joys 7;wears 5;");
            x.station();
            Check.feed(x, round < 2 ? A + "passer p" + P : "");
            CHECK.due("one without settings behind one with all", x.station(), 0);
            seen(x, "nothing is left", new int[] {round < 2 ? 1 : 0, round < 2 ? 1 : 0, 5, 30, 0, 60, 60});
            CHECK.due("nor a law", x.joy(), round < 2 ? -1 : 0);
            Check.feed(x, round == 1 ? "each 9;open 3 to 9;x" : "");
            x.station();
            seen(x, "nor of one with a fault", new int[] {round == 1 ? 1 : 0, round == 1 ? 1 : 0, 5, 30, 0, 60, 60});
        }
    }

    private static void weeks() {
        CHECK.of(4, "WEEK: any number of day ; mend ; each N ; open N to N ; (as told), 40 lines at most.");
        goodWeek("");
        goodWeek(" \n");
        goodWeek("day;");
        goodWeek("day;".repeat(40));
        goodWeek("each 1;".repeat(40));
        for (String word : new String[] {"day", "mend", "each", "open"}) {
            badWeek(5, "mend;".repeat(40) + "^" + word);
            badWeek(5, "day;".repeat(40) + "\n^" + word + ";");
        }
        badWeek(1, "day;".repeat(40) + "^tune");
        badWeek(1, "day;".repeat(40) + "^;");
        badWeek(1, "day;".repeat(40) + "^1");
        badWeek(1, "day;".repeat(39) + "day^");
        badWeek(5, "day;".repeat(40) + "^each 31;");
        goodWeek("each 1;each 30;each 1;open 0 to 1;open 59 to 60;open 0 to 60;");
        badWeek(4, "each ^0;");
        badWeek(4, "each ^31;");
        badWeek(4, "open ^60 to 60;");
        badWeek(4, "open 0 to ^0;");
        badWeek(4, "open 59 to ^59;");
        badWeek(4, "open 59 to ^61;");
        badWeek(1, "open 0 ^1;");
        badWeek(1, "day ^1;");
        badWeek(1, "mend ^1;");
        badWeek(1, "each^;");
        badWeek(1, "day^");
        badWeek(1, "day ^");
        badWeek(1, "^;");
        badWeek(1, "each ^00001;");
        for (String word : KEPT) {
            if (!" day mend each open ".contains(" " + word + " ")) {
                badWeek(1, "^" + word + " 1;");
            }
        }
    }

    private static void weekLeaves() {
        CHECK.of(4, "The TAPE is read as a WEEK, likewise.");
        StationPiano x = Check.told(A + "passer p" + P + "each 7;open 0 to 9;price 8;");
        x.day();
        x.mend();
        x.find(0, 1);
        x.mark(0, false);
        Check.planned(x, "mend;mend;mend;");
        seen(x, "a week changes nothing else", new int[] {1, 1, 5, 7, 0, 9, 8, 1, 8, 0, 3, 1, 2, 0});
        for (String text : new String[] {"day;foo", "each 31;", "day;".repeat(41), "day"}) {
            Check.feed(x, text);
            CHECK.due("a fault in " + text, x.week() != 0, true);
            seen(x, "all stays", new int[] {1, 1, 5, 7, 0, 9, 8, 1, 8, 0, 3, 1, 2, 0});
            CHECK.due("the same week", x.judged(2), 24);
        }
        Check.planned(x, "mend;");
        CHECK.due("a shorter one", x.count(10), 1);
        CHECK.due("a shorter one's price", x.judged(2), 8);
        CHECK.due("the tape is taken", x.week(), 0);
        CHECK.due("an empty week", x.count(10), 0);
        CHECK.due("an empty week's price", x.judged(2), 0);
    }

    public static void main(String[] args) {
        feedSigns();
        feedOrder();
        feedFull();
        words();
        signs();
        tunes();
        passers();
        passerNumbers();
        settings();
        onces();
        names();
        expressions();
        depths();
        firstAndLeast();
        thousandSigns();
        faultLeavesAll();
        newStation();
        nothingIsLeft();
        weeks();
        weekLeaves();
        CHECK.namesAll(2, 4);
        CHECK.end("BoundaryReadTest");
    }
}
