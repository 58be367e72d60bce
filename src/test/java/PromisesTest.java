import java.nio.charset.StandardCharsets;

/** For each promise what it says, its edges, and wrong inputs. */
public final class PromisesTest extends TellerTest {
    public static void main(String[] args) {
        newObject();
        feeding();
        tongues();
        learning();
        learningRefused();
        forgetting();
        keywords();
        keywordsRefused();
        names();
        settings();
        pairs();
        doublings();
        texts();
        moreOfIt();
        words();
        longWords();
        costs();
        partings();
        tiesInPartings();
        toldAndSpans();
        sureness();
        fixedness();
        wholes();
        tellingApart();
        tellingWords();
        counts();
        troubles();
        troublesTaken();
        tapeAfterCalls();
        fullHouse();
        CHECK.end();
    }

    private static void newObject() {
        TongueTeller x = new TongueTeller();
        for (int what = 0; what <= 6; what++) {
            due("new count " + what, x.count(what), 0);
        }
        due("new trouble", x.trouble(), 0);
        due("new told", x.told(0), -1);
        due("new spans", x.spans(), -1);
        due("new span", x.span(0, 0), -1);
        due("new word", x.word(0, 0), -1);
        due("new cost", x.cost(0, 0), -1);
        due("new pair", x.pair(0, 0, 0), -1);
        due("new telling", Check.tellingOf(x, 0), THROWN);
        refused("new part", x, x.part(), 5);
        refused("new sure", x, x.sure(0), 5);
        refused("new fixed", x, x.fixed(), 5);
        refused("new whole", x, x.whole(0), 5);
        refused("new tells", x, x.tells(0, 0), 5);
    }

    private static void feeding() {
        TongueTeller x = withTongues(1);
        due("feed", x.feed(0x61626364, 0x65666768, 0x696a6b6c, 0x6d6e6f70, 0x71727374), 20);
        due("fed text", x.text(20), 1);
        due("fed length", x.word(0, 1), 20);
        x.feed(0x61626364, 0x65666768, 0x696a6b6c, 0x6d6e6f70, 0x71727374);
        x.learn(0, 20);
        due("highest byte first", x.pair(0, 27, 0), 1);
        for (int k = 0; k < 19; k++) {
            due("in order " + k, x.pair(0, k, k + 1), 1);
        }
        due("lowest byte last", x.pair(0, 19, 27), 1);
        for (int k = 1; k <= 30; k++) {
            due("feed " + k, x.feed(-1, -1, -1, -1, -1), 20L * k);
        }
        x.set(0, 1);
        due("feed over 600", x.feed(0, 0, 0, 0, 0), -1);
        due("feed tells no trouble", x.trouble(), 0);
        due("tape stays", x.count(6), 600);
        due("bytes above 127 part words", x.text(600), 0);
        due("600 bytes", x.count(5), 600);
        x.tongue();
        x.learn(9, 0);
        due("feed", x.feed(0, 0, 0, 0, 0), 20);
        due("feed leaves trouble", x.trouble(), 1);
    }

    private static void tongues() {
        TongueTeller x = new TongueTeller();
        for (int k = 0; k < 8; k++) {
            due("tongue", x.tongue(), k);
            due("tongue's trouble", x.trouble(), 0);
        }
        refused("ninth tongue", x, x.tongue(), 3);
        due("count of tongues", x.count(0), 8);
        due("last tongue", learn(x, 7, "q"), 0);
        due("last tongue's pair", x.pair(7, 27, 16), 1);
    }

    private static void learning() {
        TongueTeller x = withTongues(2);
        due("learn", learn(x, 0, "Ab b'b 12 ab"), 0);
        due("edge a", x.pair(0, 27, 0), 2);
        due("a b", x.pair(0, 0, 1), 2);
        due("b edge", x.pair(0, 1, 27), 3);
        due("b '", x.pair(0, 1, 26), 1);
        due("' b", x.pair(0, 26, 1), 1);
        due("edge b", x.pair(0, 27, 1), 1);
        due("edge edge", x.pair(0, 27, 27), 0);
        due("other tongue", x.pair(1, 0, 1), 0);
        due("learn more", learn(x, 1, "ab"), 1);
        due("learn no word", learn(x, 1, " ! "), 2);
        due("learn nothing", x.learn(1, 0), 3);
        due("trouble", x.trouble(), 0);
        name(x, "ab");
        due("learn a name", learn(x, 0, "AB c"), 4);
        due("names aren't counted", x.pair(0, 0, 1), 2);
        due("others are", x.pair(0, 27, 2), 1);
        keyword(x, 0, "d");
        learn(x, 0, "d");
        due("keywords are counted", x.pair(0, 27, 3), 1);
        Check.feed(x, "eeee");
        x.learn(0, 2);
        due("first n bytes alone", x.pair(0, 4, 4), 1);
        learn(x, 0, "g7g");
        due("a mark parts words", x.pair(0, 27, 6), 2);
    }

    private static void learningRefused() {
        TongueTeller x = withTongues(1);
        Check.feed(x, "a");
        refused("no such tongue", x, x.learn(1, 1), 1);
        refused("tongue below 0", x, x.learn(-1, 1), 1);
        refused("1 ahead of 2", x, x.learn(1, 99), 1);
        refused("n above the tape", x, x.learn(0, 21), 2);
        refused("n below 0", x, x.learn(0, -1), 2);
        due("tape stays", x.count(6), 20);
        due("all of the tape", x.learn(0, 20), 0);
        refused("61 words", x, learn(x, 0, "a ".repeat(61)), 3);
        due("nothing counted", x.pair(0, 27, 0), 1);
        due("60 words", learn(x, 0, "a ".repeat(60)), 1);
        due("counted", x.pair(0, 27, 0), 61);
        for (int k = 2; k < 100; k++) {
            due("learn " + k, x.learn(0, 0), k);
        }
        refused("101st", x, learn(x, 0, "b"), 3);
        due("none counted", x.pair(0, 27, 1), 0);
        due("a hundred", x.count(1), 100);
        due("forget one", x.forget(50), true);
        due("numbers aren't given again", learn(x, 0, "b"), 100);
        refused("full again", x, x.learn(0, 0), 3);
    }

    private static void forgetting() {
        TongueTeller x = withTongues(1);
        learn(x, 0, "ab ab");
        learn(x, 0, "ab");
        due("three", x.pair(0, 0, 1), 3);
        name(x, "ab");
        due("forget", x.forget(0), true);
        due("forget's trouble", x.trouble(), 0);
        due("names of then", x.pair(0, 0, 1), 1);
        due("edges too", x.pair(0, 27, 0), 1);
        due("one is left", x.count(1), 1);
        due("forget twice", x.forget(0), false);
        due("forget twice: trouble", x.trouble(), 1);
        due("forget below 0", x.forget(-1), false);
        due("forget what comes later", x.forget(2), false);
        learn(x, 0, "ab c");
        due("forget a text with a name in it", x.forget(2), true);
        due("the name wasn't counted", x.pair(0, 0, 1), 1);
        due("the other was", x.pair(0, 27, 2), 0);
        due("forget the last", x.forget(1), true);
        due("nothing left", x.pair(0, 0, 1), 0);
        due("none held", x.count(1), 0);
    }

    private static void keywords() {
        TongueTeller x = withTongues(3);
        learn(x, 0, "ab");
        text(x, "ab AB cd");
        due("keyword", keyword(x, 0, " aB, "), 1);
        due("trouble", x.trouble(), 0);
        due("of this tongue", x.cost(0, 0), 0);
        due("capitals alike", x.cost(1, 0), 0);
        due("of another alone", x.cost(0, 1), 600);
        due("no keyword", x.cost(2, 0), 300);
        due("of two", keyword(x, 2, "ab"), 2);
        due("of two, in the second", x.cost(0, 2), 0);
        due("of two, in the first", x.cost(0, 0), 0);
        due("of two, in the third", x.cost(0, 1), 600);
        due("once", x.count(2), 1);
        due("of three", keyword(x, 1, "ab"), 3);
        due("a beginning is none", text(x, "a abc ab"), 3);
        due("a", x.cost(0, 0), 180);
        due("abc", x.cost(1, 0), 360);
        due("ab", x.cost(2, 0), 0);
    }

    private static void keywordsRefused() {
        TongueTeller x = withTongues(2);
        int n = Check.feed(x, "ab");
        refused("no such tongue", x, x.keyword(2, n), 1);
        refused("tongue below 0", x, x.keyword(-1, n), 1);
        refused("n", x, x.keyword(0, 21), 2);
        refused("n below 0", x, x.keyword(0, -1), 2);
        due("tape stays", x.count(6), 20);
        due("taken", x.keyword(0, n), 1);
        refused("no word", x, keyword(x, 0, " - "), 2);
        refused("no byte", x, x.keyword(0, 0), 2);
        refused("two words", x, keyword(x, 0, "c d"), 2);
        refused("a word and a mark", x, keyword(x, 0, "c1"), 2);
        refused("a mark", x, keyword(x, 0, "12"), 2);
        refused("more than 60 words", x, keyword(x, 0, "a ".repeat(61)), 2);
        refused("there already", x, keyword(x, 0, "AB"), 4);
        for (int k = 1; k < 60; k++) {
            due("keyword " + k, keyword(x, 0, wordOf(k)), 1);
        }
        refused("61st", x, keyword(x, 0, "zz"), 3);
        refused("4 ahead of 3", x, keyword(x, 0, "ab"), 4);
        due("a further tongue needs no room", keyword(x, 1, "ab"), 2);
        due("the last one's further tongue", keyword(x, 1, wordOf(59)), 2);
        due("sixty", x.count(2), 60);
    }

    private static void names() {
        TongueTeller x = withTongues(2);
        due("name", name(x, "Bob"), 1);
        due("trouble", x.trouble(), 0);
        text(x, "bob bo' BOB");
        due("a name costs nothing", x.cost(0, 0), 0);
        due("nor in another tongue", x.cost(2, 1), 0);
        due("another word does", x.cost(1, 0), 400);
        keyword(x, 0, "bob");
        due("a name that is a keyword", x.cost(0, 1), 0);
        due("is a name", x.word(0, 2), 2);
        int n = Check.feed(x, "c");
        refused("n", x, x.name(21), 2);
        refused("n below 0", x, x.name(-1), 2);
        due("taken", x.name(n), 2);
        refused("no word", x, x.name(0), 2);
        refused("two words", x, name(x, "d e"), 2);
        refused("a mark", x, name(x, "1"), 2);
        refused("there already", x, name(x, "bOb"), 4);
        for (int k = 3; k <= 30; k++) {
            due("name " + k, name(x, wordOf(k)), k);
        }
        refused("31st", x, name(x, "zz"), 3);
        refused("4 ahead of 3", x, name(x, "bob"), 4);
        due("thirty", x.count(3), 30);
        text(x, wordOf(30));
        due("the last one", x.word(0, 2), 2);
    }

    private static void settings() {
        TongueTeller x = withTongues(2);
        keyword(x, 0, "a");
        keyword(x, 1, "b");
        text(x, "a b");
        due("change is 200 at first", x.part(), 200);
        learn(x, 0, "wxyz");
        text(x, "wxyz");
        due("gap is 100 at first", x.tells(0, 1), 1);
        x.set(200, 101);
        due("one more", x.tells(0, 1), -2);
        text(x, "a b");
        due("set", x.set(2000, 5000), true);
        due("set's trouble", x.trouble(), 0);
        due("change", x.part(), 500);
        due("gap", x.tells(0, 1), -2);
        due("lowest", x.set(0, 1), true);
        due("no change", x.part(), 0);
        due("change below 0", x.set(-1, 1), false);
        due("trouble", x.trouble(), 2);
        due("change above", x.set(2001, 1), false);
        due("gap below", x.set(5, 0), false);
        due("gap above", x.set(5, 5001), false);
        due("nothing became it", x.part(), 0);
        due("gap neither", x.tells(0, 1), 1);
        x.set(7, 1);
        due("change 7", x.part(), 7);
    }

    private static void pairs() {
        TongueTeller x = withTongues(1);
        learn(x, 0, "zz'");
        due("z z", x.pair(0, 25, 25), 1);
        due("z '", x.pair(0, 25, 26), 1);
        due("' edge", x.pair(0, 26, 27), 1);
        due("none", x.pair(0, 26, 25), 0);
        due("first below", x.pair(0, -1, 0), -1);
        due("first above", x.pair(0, 28, 0), -1);
        due("second below", x.pair(0, 0, -1), -1);
        due("second above", x.pair(0, 0, 28), -1);
        due("tongue above", x.pair(1, 0, 0), -1);
        due("tongue below", x.pair(-1, 0, 0), -1);
        due("no trouble of it", x.trouble(), 0);
    }

    private static void doublings() {
        TongueTeller x = withTongues(1);
        int[] due = {100, 80, 60, 60, 40, 40, 40, 40, 20, 20, 20, 20, 20, 20, 20, 20, 0, 0};
        text(x, "a");
        for (int times = 0; times < due.length; times++) {
            due("cost of a count of " + times, x.cost(0, 0), 2L * due[times]);
            learn(x, 0, "a");
        }
        learn(x, 0, "a ".repeat(60));
        due("never below 0", x.cost(0, 0), 0);
    }

    private static void texts() {
        TongueTeller x = withTongues(1);
        due("text", text(x, "ab 12,c"), 3);
        due("trouble", x.trouble(), 0);
        refused("n", x, x.text(1), 2);
        refused("n below 0", x, x.text(-1), 2);
        due("60 words", text(x, "a ".repeat(60)), 60);
        due("sixty", x.count(4), 60);
        refused("61 words", x, text(x, "b ".repeat(61)), 3);
        due("the former stays", x.word(59, 0), 118);
        due("its bytes too", x.count(5), 120);
        refused("61 words with marks", x, text(x, "b1".repeat(30) + "b"), 3);
        due("60 words with marks", text(x, "b1".repeat(30)), 60);
        due("an empty text", x.text(0), 0);
        due("is one", x.part(), 0);
        Check.feed(x, "ab cd");
        due("first n bytes", x.text(4), 2);
        due("cut", x.word(1, 1), 1);
    }

    private static void moreOfIt() {
        TongueTeller x = withTongues(1);
        due("without a text", more(x, "ab"), 1);
        due("trouble", x.trouble(), 0);
        due("goes on", more(x, "cd e"), 2);
        due("its length", x.word(0, 1), 4);
        due("digits part", more(x, "12"), 3);
        due("digits go on", more(x, "34f"), 4);
        due("the mark", x.word(2, 1), 4);
        due("behind it", x.word(3, 0), 10);
        due("a blank parts", more(x, " g"), 5);
        due("nothing more", x.more(0), 5);
        due("bytes", x.count(5), 13);
        refused("n", x, x.more(1), 2);
        refused("n below 0", x, x.more(-1), 2);
        text(x, "a ".repeat(59));
        due("60th", more(x, "a"), 60);
        due("goes on, no new word", more(x, "b"), 60);
        refused("61st", x, more(x, " b"), 3);
        due("the text stays", x.count(5), 120);
        due("its words stay", x.count(4), 60);
        text(x, ".".repeat(590) + "abc");
        refused("601 bytes", x, more(x, "12345678"), 3);
        due("593 stay", x.count(5), 593);
        due("600 bytes", more(x, "1234567"), 2);
        due("600", x.count(5), 600);
        due("none more", x.more(0), 2);
        TongueTeller y = withTongues(1);
        due("nothing becomes the text", y.more(0), 0);
        due("and is parted", y.part(), 0);
    }

    private static void words() {
        TongueTeller x = withTongues(1);
        due("words", text(x, "--It's 1999" + (char) 233 + "x_y"), 4);
        int[][] due = {{2, 4, 0}, {7, 4, 1}, {12, 1, 0}, {14, 1, 0}};
        for (int i = 0; i < due.length; i++) {
            for (int what = 0; what < 3; what++) {
                due("word " + i + " " + what, x.word(i, what), due[i][what]);
            }
        }
        due("what above", x.word(0, 3), -1);
        due("what below", x.word(0, -1), -1);
        due("word above", x.word(4, 0), -1);
        due("word below", x.word(-1, 0), -1);
        keyword(x, 0, "X");
        due("a keyword", x.word(2, 2), 3);
        name(x, "x");
        due("a name", x.word(2, 2), 2);
        due("an apostrophe alone", text(x, "'"), 1);
        due("is a word", x.word(0, 2), 0);
        due("none beside a to z, 0 to 9", text(x, "a`b{c@d[e/f:g&h(i"), 9);
        learn(x, 0, "aZzA");
        due("a z", x.pair(0, 0, 25), 1);
        due("z a", x.pair(0, 25, 0), 1);
        text(x, "0918273645");
        due("one mark", x.word(0, 1), 10);
    }

    private static void longWords() {
        TongueTeller x = withTongues(1);
        String long24 = "a".repeat(23) + "b";
        due("one word", text(x, long24 + "cccc d"), 2);
        due("24 bytes", x.word(0, 1), 24);
        due("next begins", x.word(1, 0), 29);
        due("25 pairs", x.cost(0, 0), 2500);
        learn(x, 0, long24 + "c");
        due("further ones aren't learnt", x.pair(0, 1, 2), 0);
        due("the 24th is the last", x.pair(0, 1, 27), 1);
        due("as keyword", keyword(x, 0, long24 + "de"), 1);
        due("alike", x.word(0, 2), 3);
        refused("the same", x, keyword(x, 0, long24), 4);
        due("as name", name(x, long24 + "xyz"), 1);
        due("a name", x.word(0, 2), 2);
        text(x, "a".repeat(23));
        more(x, "bq");
        due("goes on up to 24", x.word(0, 1), 24);
        due("alike then", x.word(0, 2), 2);
        text(x, "7".repeat(30) + "a");
        due("a mark is its whole run", x.word(0, 1), 30);
        due("behind it", x.word(1, 0), 30);
    }

    private static void costs() {
        TongueTeller x = withTongues(2);
        learn(x, 0, "ab ab a");
        text(x, "ab 77 b Ab abc");
        due("ab", x.cost(0, 0), 60 + 60 + 60);
        due("ab in the other", x.cost(0, 1), 300);
        due("a mark", x.cost(1, 0), 0);
        due("b", x.cost(2, 0), 100 + 60);
        due("Ab", x.cost(3, 0), 180);
        due("abc", x.cost(4, 0), 60 + 60 + 100 + 100);
        due("word above", x.cost(5, 0), -1);
        due("word below", x.cost(-1, 0), -1);
        due("tongue above", x.cost(0, 2), -1);
        due("tongue below", x.cost(0, -1), -1);
        keyword(x, 1, "ab");
        due("a keyword of the other", x.cost(0, 0), 480);
        due("in the other", x.cost(0, 1), 0);
    }

    private static void partings() {
        TongueTeller x = withKeywords(3);
        text(x, "a a b b c");
        due("two changes", x.part(), 400);
        due("trouble", x.trouble(), 0);
        toldRow("two changes", x, 0, 0, 1, 1, 2);
        x.set(600, 100);
        due("one change", x.part(), 1100);
        toldRow("one change", x, 0, 0, 1, 1, 1);
        x.set(2000, 100);
        due("no change", x.part(), 1500);
        toldRow("no change", x, 0, 0, 0, 0, 0);
        text(x, "b x 12 b a");
        due("not worth a change", x.part(), 200 + 500);
        toldRow("not worth a change", x, 1, 1, 1, 1, 1);
        TongueTeller y = new TongueTeller();
        text(y, "a");
        refused("no tongue", y, y.part(), 5);
        due("none told", y.told(0), -1);
        due("no spans", y.spans(), -1);
        TongueTeller z = withTongues(1);
        refused("no text", z, z.part(), 5);
    }

    private static void tiesInPartings() {
        TongueTeller x = withKeywords(3);
        text(x, "1 2 3");
        due("all alike", x.part(), 0);
        toldRow("all alike", x, 0, 0, 0);
        text(x, "1 2 c 3");
        due("marks go along", x.part(), 0);
        toldRow("marks go along", x, 2, 2, 2, 2);
        text(x, "a 1 b 2");
        due("late change", x.part(), 200);
        toldRow("late change", x, 0, 0, 1, 1);
        text(x, "b 1 a");
        due("early change", x.part(), 200);
        toldRow("early change", x, 1, 0, 0);
        x.set(0, 100);
        text(x, "b 1 c 2");
        due("changes for nothing", x.part(), 0);
        toldRow("changes for nothing", x, 1, 0, 2, 0);
        x.set(500, 100);
        text(x, "b a");
        due("a change as dear as none", x.part(), 500);
        toldRow("a change as dear as none", x, 0, 0);
    }

    private static void spanRow(TongueTeller x, int i, int first, int many, int tongue) {
        due("span " + i + " first", x.span(i, 0), first);
        due("span " + i + " many", x.span(i, 1), many);
        due("span " + i + " tongue", x.span(i, 2), tongue);
    }

    private static void toldAndSpans() {
        TongueTeller x = withKeywords(2);
        text(x, "b b a a a b");
        x.part();
        due("spans", x.spans(), 3);
        spanRow(x, 0, 0, 2, 1);
        spanRow(x, 1, 2, 3, 0);
        spanRow(x, 2, 5, 1, 1);
        due("span above", x.span(3, 0), -1);
        due("span below", x.span(-1, 0), -1);
        due("what above", x.span(0, 3), -1);
        due("what below", x.span(0, -1), -1);
        text(x, "a");
        x.sure(0);
        x.fixed();
        x.whole(0);
        x.tells(0, 1);
        toldRow("the latest part stays", x, 1, 1, 0, 0, 0, 1);
        due("its spans stay", x.spans(), 3);
        x.part();
        toldRow("a new part", x, 0);
        due("its spans", x.spans(), 1);
        x.text(0);
        x.part();
        toldRow("an empty part", x);
        due("no span", x.spans(), 0);
        due("none of it", x.span(0, 0), -1);
    }

    private static void sureness() {
        TongueTeller x = withKeywords(2);
        text(x, "a a 1 b");
        due("first", x.sure(0), 900 - 200);
        due("first's trouble", x.trouble(), 0);
        due("second", x.sure(1), 700 - 200);
        due("a mark may change as well", x.sure(2), 0);
        due("last", x.sure(3), 300);
        refused("above", x, x.sure(4), 1);
        refused("below", x, x.sure(-1), 1);
        x.set(0, 100);
        due("no change to pay", x.sure(1), 500);
        keyword(x, 0, "q");
        due("as all is now", x.sure(0), 500);
        name(x, "a");
        due("a name", x.sure(0), 0);
        TongueTeller y = withTongues(1);
        refused("5 ahead of 1", y, y.sure(7), 5);
        text(y, "a");
        due("one tongue", y.sure(0), Integer.MAX_VALUE);
        refused("one tongue, no word", y, y.sure(1), 1);
        TongueTeller z = new TongueTeller();
        text(z, "a");
        refused("no tongue", z, z.sure(0), 5);
    }

    private static void fixedness() {
        TongueTeller x = withKeywords(3);
        text(x, "a a a x");
        due("a row is fixed", x.fixed(), 3);
        due("trouble", x.trouble(), 0);
        text(x, "x");
        due("one word isn't", x.fixed(), 0);
        text(x, "a b");
        due("the first is", x.fixed(), 1);
        x.set(600, 100);
        due("not if a change is dear", x.fixed(), 0);
        x.set(200, 100);
        text(x, "a 1 2 b 3");
        due("marks between", x.fixed(), 4);
        text(x, "a 1 2 3");
        due("marks behind", x.fixed(), 3);
        TongueTeller y = withTongues(1);
        refused("no text", y, y.fixed(), 5);
        text(y, "a b");
        due("one tongue", y.fixed(), 2);
        y.text(0);
        due("no words", y.fixed(), 0);
        TongueTeller z = new TongueTeller();
        z.text(0);
        refused("no tongue", z, z.fixed(), 5);
    }

    private static void wholes() {
        TongueTeller x = withKeywords(2);
        text(x, "a b x 1");
        due("in the first", x.whole(0), 0 + 500 + 200);
        due("trouble", x.trouble(), 0);
        learn(x, 1, "x");
        due("in the second", x.whole(1), 500 + 160);
        refused("above", x, x.whole(2), 1);
        refused("below", x, x.whole(-1), 1);
        TongueTeller y = withTongues(1);
        refused("5 ahead of 1", y, y.whole(9), 5);
        TongueTeller z = new TongueTeller();
        z.text(0);
        refused("no tongue", z, z.whole(0), 5);
    }

    private static void tellingApart() {
        TongueTeller x = withKeywords(2);
        text(x, "a b x a 1 a");
        due("one word is enough", x.tells(0, 1), 1);
        due("trouble", x.trouble(), 0);
        x.set(200, 500);
        due("just enough", x.tells(0, 1), 1);
        x.set(200, 501);
        due("two words", x.tells(0, 1), 2);
        due("for the other none", x.tells(1, 0), -2);
        due("which is no trouble", x.trouble(), 0);
        x.set(200, 1500);
        due("all three", x.tells(0, 1), 3);
        x.set(200, 1501);
        due("none", x.tells(0, 1), -2);
        refused("with itself", x, x.tells(1, 1), 1);
        refused("first above", x, x.tells(2, 0), 1);
        refused("second above", x, x.tells(0, 2), 1);
        refused("first below", x, x.tells(-1, 0), 1);
        refused("second below", x, x.tells(0, -1), 1);
        x.text(0);
        due("no words", x.tells(0, 1), -2);
        TongueTeller y = withTongues(2);
        refused("5 ahead of 1", y, y.tells(0, 0), 5);
        TongueTeller z = new TongueTeller();
        z.text(0);
        refused("no tongue", z, z.tells(0, 1), 5);
    }

    private static void tellingWords() {
        TongueTeller x = withKeywords(2);
        learn(x, 0, "x");
        text(x, "x a b x a a");
        x.set(200, 501);
        due("two words", x.tells(0, 1), 2);
        due("the first of like ones", x.telling(0), 1);
        due("the next", x.telling(1), 4);
        due("no third", Check.tellingOf(x, 2), THROWN);
        due("below", Check.tellingOf(x, -1), THROWN);
        x.set(200, 1510);
        due("four words", x.tells(0, 1), 4);
        due("in the order of the text", x.telling(0), 0);
        due("in order", x.telling(1), 1);
        due("in order", x.telling(2), 4);
        due("in order", x.telling(3), 5);
        due("none", x.tells(1, 0), -2);
        x.tells(0, 0);
        text(x, "q");
        due("the latest that told stays", x.telling(3), 5);
        TongueTeller y = withKeywords(2);
        text(y, "b");
        due("-2", y.tells(0, 1), -2);
        due("tells nothing", Check.tellingOf(y, 0), THROWN);
    }

    private static void counts() {
        TongueTeller x = withTongues(2);
        learn(x, 0, "a");
        learn(x, 0, "a");
        learn(x, 1, "a");
        x.forget(1);
        x.forget(1);
        for (int k = 0; k < 4; k++) {
            keyword(x, k % 2, wordOf(k));
            keyword(x, 0, wordOf(k));
        }
        for (int k = 0; k < 5; k++) {
            name(x, wordOf(k));
        }
        text(x, "a 1 b--c a a");
        Check.feed(x, "abc");
        int[] due = {2, 2, 4, 5, 6, 12, 20};
        for (int what = 0; what < due.length; what++) {
            due("count " + what, x.count(what), due[what]);
        }
        due("count above", x.count(7), -1);
        due("count below", x.count(-1), -1);
        due("constant", TongueTeller.NONE, -1);
    }

    private static void troubles() {
        TongueTeller x = withTongues(1);
        text(x, "a");
        due("forget", x.forget(3), false);
        x.word(0, 0);
        x.word(9, 0);
        x.cost(9, 9);
        x.told(9);
        x.spans();
        x.span(9, 9);
        x.pair(9, 9, 9);
        x.count(9);
        x.count(0);
        Check.tellingOf(x, 0);
        due("answers that aren't refused leave it", x.trouble(), 1);
        due("asking leaves it", x.trouble(), 1);
        x.part();
        due("part", x.trouble(), 0);
        x.forget(3);
        x.fixed();
        due("fixed", x.trouble(), 0);
        x.forget(3);
        x.whole(0);
        due("whole", x.trouble(), 0);
        x.forget(3);
        x.sure(0);
        due("sure", x.trouble(), 0);
        x.forget(3);
        x.tongue();
        due("tongue", x.trouble(), 0);
        x.forget(3);
        x.tells(0, 1);
        due("tells", x.trouble(), 0);
    }

    /** A call that isn't refused takes the trouble of the one ahead away. */
    private static void troublesTaken() {
        TongueTeller x = withTongues(2);
        for (int k = 0; k < 9; k++) {
            x.forget(99);
            due("trouble ahead of " + k, x.trouble(), 1);
            int n = Check.feed(x, "" + (char) ('a' + k));
            switch (k) {
                case 0 -> due("learn", x.learn(0, n), 0);
                case 1 -> due("forget", x.forget(0), true);
                case 2 -> due("keyword", x.keyword(0, 1), 1);
                case 3 -> due("name", x.name(n), 1);
                case 4 -> due("set", x.set(200, 100), true);
                case 5 -> due("text", x.text(n), 1);
                case 6 -> due("more", x.more(n), 1);
                case 7 -> due("sure", x.sure(0), 0);
                default -> due("tells", x.tells(0, 1), -2);
            }
            due("trouble behind " + k, x.trouble(), 0);
        }
    }

    private static void fullHouse() {
        TongueTeller x = withKeywords(8);
        due("sixty words", text(x, "h ".repeat(59) + "a"), 60);
        due("part", x.part(), 200);
        due("first", x.told(0), 7);
        due("last", x.told(59), 0);
        due("spans", x.spans(), 2);
        due("last span", x.span(1, 0), 59);
        due("last span's length", x.span(1, 1), 1);
        due("first span's length", x.span(0, 1), 59);
        due("sure of the last", x.sure(59), 300);
        due("sure of the first", x.sure(0), 700);
        due("fixed", x.fixed(), 59);
        due("whole", x.whole(7), 500);
        x.set(200, 5000);
        due("tells", x.tells(7, 0), 10);
        due("telling", x.telling(9), 9);
        due("sixty marks", text(x, "1 ".repeat(60)), 60);
        due("no cost", x.part(), 0);
        due("none tell", x.tells(7, 0), -2);
        learn(x, 7, "wxyz");
        text(x, "wxyz ".repeat(60));
        due("fifty of sixty", x.tells(7, 0), 50);
        text(x, "wx ".repeat(60));
        due("not even all", x.tells(7, 0), -2);
        x.set(200, 2400);
        due("all sixty", x.tells(7, 0), 60);
        due("the last of them", x.telling(59), 59);
        due("no more", Check.tellingOf(x, 60), THROWN);
        x.set(2000, 5000);
        text(x, "h a ".repeat(30));
        due("dearest changes", x.part(), 15000);
        due("the first tongue of two", x.told(59), 0);
        due("one span", x.spans(), 1);
    }

    /** Twenty bytes are fed, the call is made, and so many are there. */
    private static void tapeAfterCalls() {
        TongueTeller x = withTongues(1);
        Check.feed(x, "a");
        x.learn(1, 1);
        x.keyword(1, 1);
        x.learn(0, 99);
        x.keyword(0, 99);
        x.name(99);
        x.text(99);
        x.more(99);
        due("1, and 2 by n, leave it", x.count(6), 20);
        x.learn(0, 1);
        due("learn", x.count(6), 0);
        Check.feed(x, "a");
        x.keyword(0, 1);
        due("keyword", x.count(6), 0);
        Check.feed(x, "a");
        x.name(1);
        due("name", x.count(6), 0);
        Check.feed(x, "a");
        x.keyword(0, 1);
        due("keyword 4", x.count(6), 0);
        Check.feed(x, "a");
        x.name(1);
        due("name 4", x.count(6), 0);
        Check.feed(x, "1");
        x.keyword(0, 1);
        due("keyword 2, no such word", x.count(6), 0);
        Check.feed(x, "1");
        x.name(1);
        due("name 2, no such word", x.count(6), 0);
        Check.feed(x, "1");
        x.name(0);
        due("name 2, no word at all", x.count(6), 0);
        learn(x, 0, "a ".repeat(61));
        due("learn 3", x.count(6), 0);
        text(x, "a ".repeat(61));
        due("text 3", x.count(6), 0);
        text(x, "a");
        due("text", x.count(6), 0);
        more(x, " a".repeat(61));
        due("more 3", x.count(6), 0);
        more(x, "a");
        due("more", x.count(6), 0);
        byte[] latin = "abcd".getBytes(StandardCharsets.ISO_8859_1);
        x.feed(Check.number(latin, 0), 0, 0, 0, 0);
        x.text(0);
        due("the rest goes too", x.count(6), 0);
    }
}
