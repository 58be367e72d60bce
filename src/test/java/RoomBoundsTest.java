import java.util.function.IntUnaryOperator;

/** Term I and THE TAPE: the last that is taken, the first that isn't, and what is there afterwards. */
public final class RoomBoundsTest extends TellerTest {
    private static final int CALLS = 512;

    public static void main(String[] args) {
        newObject();
        manyCalls();
        tape();
        bytesOfNumbers();
        tapeByN();
        tapeOfCalls();
        tongues();
        signs();
        wordsOfText();
        bytesOfText();
        wordsAcrossMore();
        longWords();
        longWordsAcrossMore();
        longMarks();
        learntTexts();
        learntNumbers();
        forgetting();
        wordsOfLearnt();
        keywords();
        names();
        counts();
        CHECK.end();
    }

    private static void newObject() {
        TongueTeller x = new TongueTeller();
        for (int what = 0; what <= 6; what++) {
            due("P1 count(" + what + ")", x.count(what), 0);
        }
        due("P1 trouble", x.trouble(), 0);
        due("P1 nothing learnt", x.forget(0), false);
        refused("P1 no tongue", x, x.learn(0, 0), 1);
        refused("P1 no text", x, x.part(), 5);
        TongueTeller y = new TongueTeller();
        y.tongue();
        due("P1 another object has tongues of its own", x.count(0), 0);
    }

    /** The 512th call is answered like the first. */
    private static void manyCalls() {
        TongueTeller x = withKeywords(2);
        for (int call = 4 + 2; call < CALLS - 2; call++) {
            due("P2 feed, call " + call, x.feed(0x62206120, -1, -1, -1, -1), call - 5 <= 30 ? 20L * (call - 5) : -1);
        }
        due("P10 text, the 511th call", x.text(600), 60);
        due("P14 part, the 512th call", x.part(), 59 * 200);
    }

    private static void tape() {
        TongueTeller x = withTongues(1);
        for (int bytes = 20; bytes <= 600; bytes += 20) {
            due("P2 feed up to " + bytes, x.feed(0x20202020, 0x20202020, 0x20202020, 0x20202020, 0x20202061), bytes);
        }
        due("P2 feed beyond 600", x.feed(0x62626262, 0x62626262, 0x62626262, 0x62626262, 0x62626262), -1);
        due("P2 none came", x.count(6), 600);
        due("P2 nor later", x.feed(0, 0, 0, 0, 0), -1);
        due("P4 all 600", x.learn(0, 600), 0);
        due("P2 what came first is there", x.pair(0, 27, 0), 30);
        due("P2 what was refused isn't", x.pair(0, 27, 1), 0);
        due("P2 empty then", x.count(6), 0);
        due("P2 from the beginning again", x.feed(0x62202020, 0x20202020, 0x20202020, 0x20202020, 0x20202020), 20);
        x.learn(0, 20);
        due("P2 nothing of the former", x.pair(0, 27, 0), 30);
        due("P2 the new", x.pair(0, 27, 1), 1);
    }

    private static void bytesOfNumbers() {
        TongueTeller x = withTongues(1);
        x.feed(0x61626364, 0x65666768, 0x696a6b6c, 0x6d6e6f70, 0x71727374);
        x.learn(0, 20);
        for (int k = 0; k < 19; k++) {
            due("P2 of each number the highest first " + k, x.pair(0, k, k + 1), 1);
        }
        x.feed(0xe1616161, 0x61e16161, 0x6161e161, 0x616161e1, 0x61616161);
        due("P2 the highest bit matters", x.text(20), 4);
        due("P2 behind a byte above 127", x.word(0, 0), 1);
        due("P2 up to the next", x.word(0, 1), 4);
        due("P2 the last", x.word(3, 0), 16);
        x.feed(Integer.MIN_VALUE, Integer.MAX_VALUE, 0, -1, 0x61);
        due("P2 a number's lowest byte", x.text(20), 1);
        due("P2 is the last", x.word(0, 0), 19);
    }

    /** n is 0 .. what THE TAPE has; the first n bytes alone matter. */
    private static void tapeByN() {
        TongueTeller x = withTongues(1);
        Check.feed(x, "abcdefghij klmnopqrs");
        refused("P10 n 21 of 20", x, x.text(21), 2);
        due("P10 2 by n leaves the tape", x.count(6), 20);
        taken("P10 n 20 of 20", x, x.text(20), 2);
        due("P10 all of it", x.word(1, 1), 9);
        refused("P10 n 1 of 0", x, x.text(1), 2);
        taken("P10 n 0 of 0", x, x.text(0), 0);
        Check.feed(x, "abcdefghij klmnopqrs");
        taken("P10 n 19 of 20", x, x.text(19), 2);
        due("P10 the first n alone", x.word(1, 1), 8);
        due("P10 the rest goes, too", x.count(6), 0);
        Check.feed(x, "abcdefghij klmnopqrs");
        taken("P10 n 0 of 20", x, x.text(0), 0);
        due("P10 all goes", x.count(6), 0);
        due("P10 none taken", x.count(5), 0);
        Check.feed(x, "ab");
        refused("P10 n -1", x, x.text(-1), 2);
        taken("P10 n 1", x, x.text(1), 1);
        due("P10 one byte", x.word(0, 1), 1);
        Check.feed(x, ".".repeat(599) + "a");
        refused("P10 n 601 of 600", x, x.text(601), 2);
        taken("P10 n 600 of 600", x, x.text(600), 1);
        due("P10 the 600th byte", x.word(0, 0), 599);
    }

    private static void tapeLeft(String what, TongueTeller x, IntUnaryOperator call, int n, int trouble, int left) {
        while (x.count(6) > 0) {
            x.text(0);
        }
        Check.feed(x, "ab cd");
        refused(what, x, call.applyAsInt(n), trouble);
        due(what + ": tape", x.count(6), left);
    }

    /** "1, and 2 by n, leave it": all else empties it. */
    private static void tapeOfCalls() {
        TongueTeller x = withTongues(1);
        tapeLeft("P4 learn 1", x, n -> x.learn(1, n), 5, 1, 20);
        tapeLeft("P4 learn 2", x, n -> x.learn(0, n), 21, 2, 20);
        tapeLeft("P6 keyword 1", x, n -> x.keyword(1, n), 2, 1, 20);
        tapeLeft("P6 keyword 2 by n", x, n -> x.keyword(0, n), 21, 2, 20);
        tapeLeft("P6 keyword 2 by two words", x, n -> x.keyword(0, n), 5, 2, 0);
        tapeLeft("P6 keyword 2 by no word", x, n -> x.keyword(0, n), 0, 2, 0);
        tapeLeft("P7 name 2 by n", x, n -> x.name(n), 21, 2, 20);
        tapeLeft("P7 name 2 by two words", x, n -> x.name(n), 5, 2, 0);
        tapeLeft("P7 name 2 by no word", x, n -> x.name(n), 0, 2, 0);
        tapeLeft("P10 text 2", x, n -> x.text(n), 21, 2, 20);
        tapeLeft("P11 more 2", x, n -> x.more(n), 21, 2, 20);
        name(x, "ab");
        keyword(x, 0, "ab");
        tapeLeft("P6 keyword 4", x, n -> x.keyword(0, n), 2, 4, 0);
        tapeLeft("P7 name 4", x, n -> x.name(n), 2, 4, 0);
        Check.feed(x, "ab cd");
        x.tongue();
        x.forget(9);
        x.set(0, 0);
        x.part();
        x.sure(9);
        x.fixed();
        x.whole(9);
        x.tells(0, 0);
        due("calls without n leave the tape", x.count(6), 20);
        due("P10 what was left is whole", x.text(5), 2);
    }

    private static void tongues() {
        TongueTeller x = new TongueTeller();
        for (int k = 0; k < 8; k++) {
            due("P9 pair of a tongue to come " + k, x.pair(k, 0, 0), -1);
            refused("P4 learn of a tongue to come " + k, x, x.learn(k, 0), 1);
            taken("P3 tongue " + k, x, x.tongue(), k);
            due("P23 tongues " + k, x.count(0), k + 1);
            due("P9 pair of a new tongue " + k, x.pair(k, 0, 0), 0);
        }
        refused("P3 a ninth", x, x.tongue(), 3);
        refused("P3 a tenth", x, x.tongue(), 3);
        due("P23 eight tongues", x.count(0), 8);
        due("P9 no ninth", x.pair(8, 0, 0), -1);
        keyword(x, 7, "h");
        learn(x, 7, "xyz");
        text(x, "h xyz");
        due("P13 the eighth's keyword", x.cost(0, 7), 0);
        due("P13 the eighth's pairs", x.cost(1, 7), 320);
        due("P13 the seventh", x.cost(1, 6), 400);
        due("P13 no ninth", x.cost(0, 8), -1);
        due("P14 part", x.part(), 320);
        toldRow("P15 the eighth", x, 7, 7);
        due("P20 the eighth", x.whole(7), 320);
        due("P21 the eighth", x.tells(7, 0), 1);
        refused("P20 no ninth", x, x.whole(8), 1);
        refused("P21 no ninth", x, x.tells(7, 8), 1);
    }

    /** Every byte: LETTERS, digits, and all else, which parts WORDS. */
    private static void signs() {
        for (int sign = 0; sign < 256; sign++) {
            TongueTeller x = withTongues(1);
            boolean small = sign >= 'a' && sign <= 'z';
            boolean great = sign >= 'A' && sign <= 'Z';
            boolean letter = small || great || sign == '\'';
            boolean digit = sign >= '0' && sign <= '9';
            int number = small ? sign - 'a' : great ? sign - 'A' : 26;
            String two = "q" + (char) sign + "q";
            int pairs = !letter ? 0 : number == 'q' - 'a' ? 2 : 1;
            due("I byte " + sign + ": words", text(x, two), letter ? 1 : digit ? 3 : 2);
            due("I byte " + sign + ": first word's bytes", x.word(0, 1), letter ? 3 : 1);
            due("I byte " + sign + ": second word's kind", x.word(1, 2), letter ? -1 : digit ? 1 : 0);
            learn(x, 0, two);
            due("I byte " + sign + ": learnt", x.pair(0, 16, number), pairs);
            due("I byte " + sign + ": learnt, too", x.pair(0, number, 16), pairs);
            due("I byte " + sign + ": edges", x.pair(0, 27, 16), letter ? 1 : 2);
        }
    }

    private static void wordsOfText() {
        TongueTeller x = withTongues(1);
        taken("P10 60 words", x, text(x, "a ".repeat(60)), 60);
        due("P12 the 60th", x.word(59, 0), 118);
        due("P12 no 61st", x.word(60, 0), -1);
        refused("P10 61 words", x, text(x, "b ".repeat(60) + "b"), 3);
        due("P10 the former stays", x.word(59, 0), 118);
        due("P23 its words", x.count(4), 60);
        due("P23 its bytes", x.count(5), 120);
        due("P14 its cost", x.part(), 12000);
        taken("P10 60 words and parters behind", x, text(x, "a ".repeat(60) + "...  .."), 60);
        taken("P10 60 words, the rest of the tape left out", x, x.text(0), 0);
        Check.feed(x, "a ".repeat(61));
        taken("P10 the first 60 of 61", x, x.text(119), 60);
        Check.feed(x, "a ".repeat(61));
        refused("P10 61 words by one byte", x, x.text(121), 3);
        taken("P10 60 words with marks", x, text(x, "a1".repeat(30)), 60);
        refused("P10 60 words and a mark", x, text(x, "a1".repeat(30) + " 1"), 3);
        taken("P10 60 words in 600 bytes", x, text(x, "a         ".repeat(60)), 60);
        due("P12 the 60th", x.word(59, 0), 590);
        taken("P10 no words in 600 bytes", x, text(x, "-".repeat(600)), 0);
        due("P23 600 bytes", x.count(5), 600);
        due("P14 no words", x.part(), 0);
        due("P16 no spans", x.spans(), 0);
    }

    private static void bytesOfText() {
        TongueTeller x = withTongues(1);
        taken("P11 599 bytes", x, more(x, ".".repeat(599)), 0);
        taken("P11 600 bytes", x, more(x, "a"), 1);
        due("P12 the 600th", x.word(0, 0), 599);
        taken("P11 none more", x, x.more(0), 1);
        refused("P11 a 601st", x, more(x, "a"), 3);
        due("P23 600 stay", x.count(5), 600);
        due("P12 the word stays", x.word(0, 1), 1);
        refused("P11 600 behind 600", x, more(x, ".".repeat(600)), 3);
        text(x, ".".repeat(300));
        refused("P11 601 in two parts", x, more(x, ".".repeat(301)), 3);
        due("P23 300 stay", x.count(5), 300);
        taken("P11 600 in two parts", x, more(x, ".".repeat(300)), 0);
        due("P23 600", x.count(5), 600);
        taken("P10 a text anew", x, text(x, "a"), 1);
        due("P23 one byte", x.count(5), 1);
        refused("P11 600 behind one", x, more(x, ".".repeat(600)), 3);
        taken("P11 599 behind one", x, more(x, ".".repeat(599)), 1);
    }

    private static void wordsAcrossMore() {
        TongueTeller x = withTongues(1);
        taken("P11 without a text it is the text", x, more(x, "ab"), 1);
        taken("P11 a word goes on with letters", x, more(x, "C'd"), 1);
        due("P12 its bytes", x.word(0, 1), 5);
        taken("P11 no word goes on with digits", x, more(x, "12"), 2);
        taken("P11 a mark goes on with digits", x, more(x, "34 5"), 3);
        due("P12 the mark's bytes", x.word(1, 1), 4);
        taken("P11 no mark goes on with letters", x, more(x, "x"), 4);
        taken("P11 nothing comes first", x, more(x, " "), 4);
        taken("P11 behind a parter", x, more(x, "x"), 5);
        due("P12 a word of its own", x.word(4, 0), 13);
        due("P12 the former stays", x.word(3, 1), 1);
        text(x, "a ".repeat(59) + "a");
        taken("P11 the 60th goes on", x, more(x, "b"), 60);
        due("P12 two bytes", x.word(59, 1), 2);
        refused("P11 a 61st", x, more(x, "b b"), 3);
        due("P12 it didn't go on", x.word(59, 1), 2);
        refused("P11 a mark is the 61st", x, more(x, "1"), 3);
        taken("P11 parters", x, more(x, "- -"), 60);
        refused("P11 a 61st behind parters", x, more(x, "a"), 3);
        due("P23 bytes", x.count(5), 123);
        TongueTeller y = withTongues(1);
        taken("P11 nothing, without a text, is the text", y, y.more(0), 0);
        taken("P14 it is one", y, y.part(), 0);
        TongueTeller z = withTongues(1);
        taken("P11 60 words without a text", z, more(z, "a ".repeat(60)), 60);
        keyword(z, 0, "abc");
        text(z, "ab");
        due("P12 no keyword yet", z.word(0, 2), 0);
        more(z, "c");
        due("P12 a keyword as it went on", z.word(0, 2), 3);
        more(z, "d");
        due("P12 no keyword any more", z.word(0, 2), 0);
    }

    /** "the first 24 of them (further ones are of no matter)" */
    private static void longWords() {
        String letters24 = "abcdefghijklmnopqrstuvwx";
        TongueTeller x = withTongues(1);
        due("I 23, 24, 25 letters", text(x, letters24.substring(1) + " " + letters24 + " " + letters24 + "y z"), 4);
        due("P12 23", x.word(0, 1), 23);
        due("P12 24", x.word(1, 1), 24);
        due("P12 25", x.word(2, 1), 24);
        due("P12 the next begins behind the 25th", x.word(3, 0), 23 + 1 + 24 + 1 + 25 + 1);
        due("P13 23", x.cost(0, 0), 2400);
        due("P13 24", x.cost(1, 0), 2500);
        due("P13 25", x.cost(2, 0), 2500);
        learn(x, 0, letters24 + "yz");
        due("P9 23rd and 24th", x.pair(0, 22, 23), 1);
        due("P9 24th and 25th", x.pair(0, 23, 24), 0);
        due("P9 24th and the edge", x.pair(0, 23, 27), 1);
        due("P9 25th and 26th", x.pair(0, 24, 25), 0);
        due("P9 26th and the edge", x.pair(0, 25, 27), 0);
        due("P13 24 learnt", x.cost(1, 0), 2000);
        due("P13 25 learnt", x.cost(2, 0), 2000);
        x.forget(0);
        due("P5 forgotten", x.cost(1, 0), 2500);
        taken("P6 a keyword of 25", x, keyword(x, 0, letters24 + "q"), 1);
        due("P12 23: another", x.word(0, 2), 0);
        due("P12 24: it", x.word(1, 2), 3);
        due("P12 25: it", x.word(2, 2), 3);
        refused("P6 that of 24 is there", x, keyword(x, 0, letters24), 4);
        taken("P6 that of 23 isn't", x, keyword(x, 0, letters24.substring(0, 23)), 1);
        taken("P6 the 24th matters", x, keyword(x, 0, letters24.substring(0, 23) + "y"), 1);
        taken("P7 a name of 600", x, name(x, letters24 + "r".repeat(576)), 1);
        due("P12 24: a name", x.word(1, 2), 2);
        refused("P7 that of 24 is there", x, name(x, letters24), 4);
        due("I 600 letters", text(x, "a".repeat(600)), 1);
        due("P12 24 of 600", x.word(0, 1), 24);
        due("P13 24 of 600", x.cost(0, 0), 2500);
    }

    private static void longWordsAcrossMore() {
        TongueTeller x = withTongues(1);
        text(x, "a".repeat(23));
        due("P11 a 24th", more(x, "b"), 1);
        due("P12 24", x.word(0, 1), 24);
        due("P11 a 25th", more(x, "c"), 1);
        due("P12 still 24", x.word(0, 1), 24);
        due("P23 25 bytes", x.count(5), 25);
        due("P11 a 26th", more(x, "c d"), 2);
        due("P12 the next", x.word(1, 0), 27);
        keyword(x, 0, "a".repeat(23) + "b");
        due("P12 the first 24 are the keyword", x.word(0, 2), 3);
    }

    private static void longMarks() {
        TongueTeller x = withTongues(2);
        due("I a run of digits", text(x, "0".repeat(24) + " " + "9".repeat(25) + "a"), 3);
        due("P12 24 digits", x.word(0, 1), 24);
        due("P12 25 digits", x.word(1, 1), 25);
        due("P12 a mark", x.word(1, 2), 1);
        due("P12 behind it", x.word(2, 0), 50);
        due("P13 no cost", x.cost(1, 1), 0);
        due("I 600 digits", text(x, "7".repeat(600)), 1);
        due("P12 600 digits", x.word(0, 1), 600);
        due("P4 only marks", learn(x, 0, "1 22 333"), 0);
        for (int sign = 0; sign < 28; sign++) {
            due("P9 none counted " + sign, x.pair(0, 27, sign), 0);
        }
    }

    private static void learntTexts() {
        TongueTeller x = withTongues(2);
        for (int k = 0; k < 100; k++) {
            taken("P4 learn " + k, x, k % 25 == 0 ? learn(x, k % 2, "a") : x.learn(k % 2, 0), k);
            due("P23 learnt " + k, x.count(1), k + 1);
        }
        refused("P4 the 101st", x, learn(x, 0, "a"), 3);
        due("P9 isn't counted", x.pair(0, 27, 0), 2);
        due("P23 a hundred", x.count(1), 100);
        taken("P5 forget the first", x, x.forget(0));
        due("P5 its counts go", x.pair(0, 27, 0), 1);
        due("P5 the other tongue's stay", x.pair(1, 27, 0), 2);
        taken("P5 forget the last", x, x.forget(99));
        taken("P4 the 101st", x, learn(x, 0, "a"), 100);
        taken("P4 the 102nd", x, x.learn(1, 0), 101);
        refused("P4 the 103rd", x, x.learn(1, 0), 3);
        due("P9 counted", x.pair(0, 27, 0), 2);
        taken("P5 forget what came last", x, x.forget(101));
        refused("P5 not what was refused", x, x.forget(102), 1);
        due("P23 ninety-nine", x.count(1), 99);
    }

    /** "numbers aren't given again" */
    private static void learntNumbers() {
        TongueTeller x = withTongues(1);
        taken("P4 the first", x, x.learn(0, 0), 0);
        taken("P5 forgotten", x, x.forget(0));
        taken("P4 the second", x, x.learn(0, 0), 1);
        refused("P4 refused by 1", x, x.learn(1, 0), 1);
        refused("P4 refused by 2", x, x.learn(0, 1), 2);
        refused("P4 refused by 3", x, learn(x, 0, "a ".repeat(61)), 3);
        taken("P4 no number is lost", x, x.learn(0, 0), 2);
        taken("P5 the second", x, x.forget(1));
        taken("P5 the third", x, x.forget(2));
        refused("P5 the second again", x, x.forget(1), 1);
        refused("P5 one to come", x, x.forget(3), 1);
        taken("P4 the fourth", x, x.learn(0, 0), 3);
        taken("P5 which came now", x, x.forget(3));
        due("P23 none held", x.count(1), 0);
        for (int k = 4; k < 120; k++) {
            taken("P4 learn " + k, x, x.learn(0, 0), k);
            taken("P5 forget " + k, x, x.forget(k));
        }
    }

    /** "its COUNTS go (by NAMES as they were when it was learnt)" */
    private static void forgetting() {
        TongueTeller x = withTongues(1);
        learn(x, 0, "bob c 5");
        name(x, "bob");
        learn(x, 0, "Bob c 5");
        due("P4 counted ahead of the name, not behind", x.pair(0, 1, 14), 1);
        due("P4 counted both times", x.pair(0, 27, 2), 2);
        taken("P5 the one behind", x, x.forget(1));
        due("P5 its name wasn't counted", x.pair(0, 1, 14), 1);
        due("P5 its other word was", x.pair(0, 27, 2), 1);
        taken("P5 the one ahead", x, x.forget(0));
        due("P5 its name was counted", x.pair(0, 1, 14), 0);
        due("P5 the edge, too", x.pair(0, 27, 1), 0);
        due("P5 and the last edge", x.pair(0, 1, 27), 0);
        due("P5 nothing is left", x.pair(0, 27, 2), 0);
        learn(x, 0, "dd");
        keyword(x, 0, "dd");
        x.forget(2);
        due("P5 a keyword's counts go", x.pair(0, 3, 3), 0);
    }

    private static void wordsOfLearnt() {
        TongueTeller x = withTongues(1);
        taken("P4 60 words", x, learn(x, 0, "a ".repeat(60)), 0);
        due("P9 counted", x.pair(0, 27, 0), 60);
        refused("P4 61 words", x, learn(x, 0, "a ".repeat(61)), 3);
        due("P9 not counted", x.pair(0, 27, 0), 60);
        due("P23 one", x.count(1), 1);
        name(x, "b");
        refused("P4 names are of the 61", x, learn(x, 0, "a ".repeat(60) + "b"), 3);
        refused("P4 marks are of the 61", x, learn(x, 0, "a ".repeat(60) + "1"), 3);
        taken("P4 60 with names and marks", x, learn(x, 0, "a b 1 ".repeat(20)), 1);
        due("P9 20 of them counted", x.pair(0, 27, 0), 80);
        taken("P4 600 bytes, 60 words", x, learn(x, 0, "cdefghijk ".repeat(60)), 2);
        due("P9 60 of them counted", x.pair(0, 2, 3), 60);
        taken("P5 forget it", x, x.forget(2));
        due("P9 gone", x.pair(0, 2, 3), 0);
        taken("P4 24 words of 24", x, learn(x, 0, ("z".repeat(24) + " ").repeat(24)), 3);
        due("P9 23 pairs of each", x.pair(0, 25, 25), 24 * 23);
        taken("P4 nothing", x, x.learn(0, 0), 4);
        taken("P4 no words", x, learn(x, 0, " .. "), 5);
        due("P23 learnt, too", x.count(1), 5);
    }

    private static void keywords() {
        TongueTeller x = withTongues(8);
        for (int k = 0; k < 60; k++) {
            taken("P6 keyword " + k, x, keyword(x, k % 8, wordOf(k)), 1);
            due("P23 keywords " + k, x.count(2), k + 1);
        }
        refused("P6 a 61st", x, keyword(x, 0, "zz"), 3);
        refused("P6 a 61st of another tongue", x, keyword(x, 5, "zz"), 3);
        refused("P6 there already", x, keyword(x, 59 % 8, wordOf(59)), 4);
        int many = 1;
        for (int tongue = 0; tongue < 8; tongue++) {
            if (tongue != 59 % 8) {
                many++;
                taken("P6 the 60th of tongue " + tongue, x, keyword(x, tongue, wordOf(59)), many);
            }
        }
        due("P6 of all eight", many, 8);
        refused("P6 of all eight: there already", x, keyword(x, 7, wordOf(59)), 4);
        due("P23 each once", x.count(2), 60);
        text(x, wordOf(0) + " " + wordOf(59) + " zz");
        due("P13 the first, in its tongue", x.cost(0, 0), 0);
        due("P13 the first, in another", x.cost(0, 7), 700);
        due("P13 the 60th, in the first", x.cost(1, 0), 0);
        due("P13 the 60th, in the eighth", x.cost(1, 7), 0);
        due("P13 none", x.cost(2, 0), 300);
        due("P12 none", x.word(2, 2), 0);
        due("P6 parters round it", keyword(withTongues(1), 0, "..a.."), 1);
    }

    private static void names() {
        TongueTeller x = withTongues(2);
        for (int k = 0; k < 30; k++) {
            taken("P7 name " + k, x, name(x, " " + wordOf(k) + "."), k + 1);
            due("P23 names " + k, x.count(3), k + 1);
        }
        refused("P7 a 31st", x, name(x, "zz"), 3);
        refused("P7 there already", x, name(x, wordOf(29)), 4);
        due("P23 thirty", x.count(3), 30);
        taken("P6 a name may be a keyword", x, keyword(x, 0, wordOf(29)), 1);
        text(x, wordOf(0) + " " + wordOf(29) + " zz");
        due("P12 the first", x.word(0, 2), 2);
        due("P12 the 30th", x.word(1, 2), 2);
        due("P12 none", x.word(2, 2), 0);
        due("P13 the 30th, a keyword elsewhere", x.cost(1, 1), 0);
        due("P13 none", x.cost(2, 1), 300);
        learn(x, 0, wordOf(29) + " zz");
        due("P4 the 30th isn't counted", x.pair(0, 27, 22), 0);
        due("P4 the other is", x.pair(0, 27, 25), 1);
    }

    private static void counts() {
        TongueTeller x = withTongues(2);
        learn(x, 0, "a");
        keyword(x, 0, "a");
        keyword(x, 1, "a");
        name(x, "b");
        text(x, "a b 1");
        Check.feed(x, "a".repeat(40));
        int[] due = {2, 1, 1, 1, 3, 5, 40};
        for (int what = 0; what < due.length; what++) {
            due("P23 count(" + what + ")", x.count(what), due[what]);
        }
        for (int what : outside(-1, 7)) {
            due("P23 count(" + what + ")", x.count(what), -1);
        }
        x.text(0);
        due("P23 words of an empty text", x.count(4), 0);
        due("P23 bytes of an empty text", x.count(5), 0);
    }
}
