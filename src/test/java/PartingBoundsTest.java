/** Terms II to IV and the asks about THE TEXT: both sides of each bound, and what stays. */
public final class PartingBoundsTest extends TellerTest {
    public static void main(String[] args) {
        pairs();
        doublings();
        keywordCosts();
        marksAndNames();
        changes();
        gaps();
        words();
        costs();
        parts();
        ties();
        noWords();
        oneTongue();
        told();
        spans();
        sure();
        sureAtTies();
        fixed();
        fixedAtTies();
        whole();
        tells();
        telling();
        tellingStays();
        troubles();
        CHECK.end();
    }

    private static void pairs() {
        TongueTeller x = withTongues(2);
        learn(x, 1, "az'");
        due("P9 edge, a", x.pair(1, 27, 0), 1);
        due("P9 a, z", x.pair(1, 0, 25), 1);
        due("P9 z, '", x.pair(1, 25, 26), 1);
        due("P9 ', edge", x.pair(1, 26, 27), 1);
        due("P9 edge, edge", x.pair(1, 27, 27), 0);
        due("P9 not the other way round", x.pair(1, 25, 0), 0);
        due("P9 the other tongue", x.pair(0, 0, 25), 0);
        int sum = 0;
        for (int first = 0; first < 28; first++) {
            for (int second = 0; second < 28; second++) {
                sum += x.pair(1, first, second);
            }
        }
        due("P9 four pairs in all", sum, 4);
        for (int sign : outside(-1, 28)) {
            due("P9 first " + sign, x.pair(1, sign, 0), -1);
            due("P9 second " + sign, x.pair(1, 0, sign), -1);
        }
        for (int tongue : outside(-1, 2)) {
            due("P9 tongue " + tongue, x.pair(tongue, 27, 0), -1);
        }
        learn(x, 0, "'");
        due("P9 a word of one sign: edge, '", x.pair(0, 27, 26), 1);
        due("P9 a word of one sign: ', edge", x.pair(0, 26, 27), 1);
        learn(x, 0, "b b");
        due("P9 no pair across words", x.pair(0, 1, 1), 0);
    }

    private static void doublings() {
        TongueTeller x = withTongues(1);
        int[] bounds = {0, 1, 2, 3, 4, 7, 8, 15, 16, 17, 31, 32, 64, 600};
        int[] costs = {100, 80, 60, 60, 40, 40, 20, 20, 0, 0, 0, 0, 0, 0};
        text(x, "a");
        int number = 0;
        for (int k = 0; k < bounds.length; k++) {
            int many = 0;
            int first = number;
            while (many < bounds[k]) {
                int now = Math.min(60, bounds[k] - many);
                learn(x, 0, "a ".repeat(now));
                many += now;
                number++;
            }
            due("II a count of " + bounds[k], x.pair(0, 27, 0), bounds[k]);
            due("II the cost of a count of " + bounds[k], x.cost(0, 0), 2L * costs[k]);
            for (int old = first; old < number; old++) {
                x.forget(old);
            }
            due("II forgotten again", x.cost(0, 0), 200);
        }
        learn(x, 0, "a ".repeat(16));
        learn(x, 0, "a");
        x.forget(number);
        due("II from 17 to 1", x.cost(0, 0), 160);
        text(x, "aa");
        learn(x, 0, "aa aa");
        due("II each pair by its own count", x.cost(0, 0), 60 + 60 + 60);
    }

    private static void keywordCosts() {
        TongueTeller x = withTongues(3);
        learn(x, 0, "a ".repeat(16));
        text(x, "a");
        due("II costs nothing by its pairs", x.cost(0, 0), 0);
        keyword(x, 1, "a");
        due("II of others alone", x.cost(0, 0), 300);
        due("II of others alone, in a third", x.cost(0, 2), 500);
        due("II one of this tongue", x.cost(0, 1), 0);
        keyword(x, 2, "a");
        due("II of two others: 300 once", x.cost(0, 0), 300);
        keyword(x, 0, "a");
        due("II of all", x.cost(0, 0), 0);
        due("II of all, without learning", x.cost(0, 2), 0);
        x.tongue();
        due("II in a tongue that came later", x.cost(0, 3), 500);
    }

    private static void marksAndNames() {
        TongueTeller x = withTongues(2);
        text(x, "7 bob a");
        keyword(x, 0, "bob");
        due("II a keyword", x.cost(1, 1), 700);
        name(x, "bob");
        for (int tongue = 0; tongue < 2; tongue++) {
            due("II a mark costs 0", x.cost(0, tongue), 0);
            due("II a name costs 0", x.cost(1, tongue), 0);
            due("II another doesn't", x.cost(2, tongue), 200);
        }
    }

    private static void changes() {
        TongueTeller x = withKeywords(2);
        text(x, "a b a a a a a a a b b b b b");
        due("P8 CHANGE is 200 at first", x.part(), 200 + 200 + 200);
        taken("P8 CHANGE 0", x, x.set(0, 100));
        due("P8 CHANGE 0 costs nothing", x.part(), 0);
        taken("P8 CHANGE 2,000", x, x.set(2000, 100));
        due("P8 CHANGE 2,000 costs it", x.part(), 500 + 2000);
        refused("P8 CHANGE 2,001", x, x.set(2001, 100), 2);
        due("P8 2,000 stays", x.part(), 500 + 2000);
        taken("P8 CHANGE 1", x, x.set(1, 100));
        due("P8 CHANGE 1 costs it", x.part(), 3);
        refused("P8 CHANGE -1", x, x.set(-1, 100), 2);
        due("P8 1 stays", x.part(), 3);
        refused("P8 CHANGE 0 with a wrong GAP", x, x.set(0, 0), 2);
        due("P8 1 stays still", x.part(), 3);
        taken("P8 CHANGE 1,999", x, x.set(1999, 5000));
        due("P8 CHANGE 1,999 costs it", x.part(), 500 + 1999);
    }

    private static void gaps() {
        TongueTeller x = withTongues(2);
        learn(x, 0, "wxyz");
        text(x, "wxyz");
        due("P8 GAP is 100 at first: 100 less tells", x.tells(0, 1), 1);
        text(x, "wxyzq");
        due("P8 GAP is 100 at first: 80 less doesn't", x.tells(0, 1), -2);
        text(x, "wxyz");
        taken("P8 GAP 101", x, x.set(200, 101));
        due("P8 100 less doesn't", x.tells(0, 1), -2);
        taken("P8 GAP 1", x, x.set(200, 1));
        text(x, "w");
        due("P8 20 less does", x.tells(0, 1), 1);
        text(x, "q");
        due("P8 none less doesn't, whatever GAP", x.tells(0, 1), -2);
        text(x, "w");
        refused("P8 GAP 0", x, x.set(200, 0), 2);
        due("P8 GAP 1 stays", x.tells(0, 1), 1);
        refused("P8 GAP 5,001", x, x.set(200, 5001), 2);
        due("P8 GAP 1 stays still", x.tells(0, 1), 1);
        refused("P8 GAP 5,000 with a wrong CHANGE", x, x.set(2001, 5000), 2);
        due("P8 GAP 1 stays then, too", x.tells(0, 1), 1);
        taken("P8 GAP 5,000", x, x.set(200, 5000));
        keyword(x, 0, "a");
        text(x, "a ".repeat(9));
        due("P8 4,500 less doesn't", x.tells(0, 1), -2);
        text(x, "a ".repeat(10));
        due("P8 5,000 less does", x.tells(0, 1), 10);
        due("P8 CHANGE stayed", x.set(200, 5000), true);
    }

    private static void words() {
        TongueTeller x = new TongueTeller();
        due("P12 no text", x.word(0, 0), -1);
        text(x, "ab 7");
        due("P12 where the last begins", x.word(1, 0), 3);
        due("P12 its bytes", x.word(1, 1), 1);
        due("P12 its kind", x.word(1, 2), 1);
        for (int i : outside(-1, 2)) {
            for (int what = 0; what < 3; what++) {
                due("P12 word " + i + " " + what, x.word(i, what), -1);
            }
        }
        for (int what : outside(-1, 3)) {
            due("P12 what " + what, x.word(0, what), -1);
        }
        x.text(0);
        due("P12 a text of no words", x.word(0, 0), -1);
    }

    private static void costs() {
        TongueTeller x = withTongues(2);
        due("P13 no text", x.cost(0, 0), -1);
        text(x, "ab 7");
        due("P13 the last word, the last tongue", x.cost(1, 1), 0);
        due("P13 the first word, the last tongue", x.cost(0, 1), 300);
        for (int i : outside(-1, 2)) {
            due("P13 word " + i, x.cost(i, 0), -1);
        }
        for (int tongue : outside(-1, 2)) {
            due("P13 tongue " + tongue, x.cost(0, tongue), -1);
        }
        x.tongue();
        due("P13 a tongue that came", x.cost(0, 2), 300);
        x.text(0);
        due("P13 a text of no words", x.cost(0, 0), -1);
    }

    private static void parts() {
        TongueTeller x = withKeywords(2);
        text(x, "b");
        due("III no CHANGE at the first word", x.part(), 0);
        toldRow("III one word", x, 1);
        text(x, "a 1 b");
        due("III one CHANGE", x.part(), 200);
        x.set(499, 100);
        text(x, "a b");
        due("III a change that is cheaper", x.part(), 499);
        toldRow("III a change that is cheaper", x, 0, 1);
        x.set(501, 100);
        due("III a change that is dearer", x.part(), 500);
        toldRow("III a change that is dearer", x, 0, 0);
        x.set(200, 100);
        name(x, "b");
        due("P14 as all is now", x.part(), 0);
        toldRow("P14 as all is now", x, 0, 0);
        TongueTeller y = withKeywords(8);
        due("III sixty words", text(y, "a b c d e f g h a b c d ".repeat(5)), 60);
        due("III 59 changes", y.part(), 59 * 200);
        due("P15 the last of sixty", y.told(59), 3);
        due("P15 no 61st", y.told(60), -1);
        due("P16 sixty spans", y.spans(), 60);
        due("P17 the last of sixty", y.span(59, 2), 3);
        due("P17 its first word", y.span(59, 0), 59);
        due("P17 no 61st", y.span(60, 0), -1);
    }

    /** "of as cheap ones the one whose first WORD has the lesser TONGUE, then the second .." */
    private static void ties() {
        TongueTeller x = withKeywords(3);
        x.set(500, 100);
        text(x, "a b");
        due("III as dear with a change as without", x.part(), 500);
        toldRow("III 0 0 ahead of 0 1, 1 1", x, 0, 0);
        text(x, "b a");
        due("III the other way round", x.part(), 500);
        toldRow("III 0 0 ahead of 1 0, 1 1", x, 0, 0);
        text(x, "c b");
        due("III of the latter two", x.part(), 500);
        toldRow("III 1 1 ahead of 2 1, 2 2", x, 1, 1);
        x.set(200, 100);
        text(x, "b 1 2 a");
        due("III where to change", x.part(), 200);
        toldRow("III as early as can be, to the lesser", x, 1, 0, 0, 0);
        text(x, "a 1 2 b");
        due("III where to change", x.part(), 200);
        toldRow("III as late as can be, to the greater", x, 0, 0, 0, 1);
        x.set(0, 100);
        text(x, "1 c 2");
        due("III changes for nothing", x.part(), 0);
        toldRow("III each the least", x, 0, 2, 0);
        text(x, "x y");
        due("III alike in all", x.part(), 400);
        toldRow("III alike in all", x, 0, 0);
        TongueTeller y = withKeywords(3);
        y.set(500, 100);
        text(y, "b c c b a");
        due("III several as cheap", y.part(), 1500);
        toldRow("III the least of them", y, 1, 1, 1, 1, 0);
    }

    private static void noWords() {
        for (int tongues = 1; tongues <= 8; tongues++) {
            TongueTeller x = withTongues(tongues);
            x.text(0);
            taken("P14 no words", x, x.part(), 0);
            due("P15 no words", x.told(0), -1);
            due("P16 no words", x.spans(), 0);
            due("P17 no words", x.span(0, 0), -1);
            refused("P18 no words", x, x.sure(0), 1);
            taken("P19 no words", x, x.fixed(), 0);
            taken("P20 no words", x, x.whole(tongues - 1), 0);
            if (tongues > 1) {
                taken("P21 no words", x, x.tells(0, tongues - 1), -2);
            }
            due("P22 no words", Check.tellingOf(x, 0), THROWN);
        }
    }

    private static void oneTongue() {
        TongueTeller x = withKeywords(1);
        due("III sixty words", text(x, "b ".repeat(59) + "1"), 60);
        taken("P18 one tongue, the first word", x, x.sure(0), 2147483647L);
        taken("P18 one tongue, the last word", x, x.sure(59), 2147483647L);
        refused("P18 one tongue, no such word", x, x.sure(60), 1);
        refused("P18 one tongue, no such word", x, x.sure(-1), 1);
        taken("P19 one tongue: all", x, x.fixed(), 60);
        taken("P14 one tongue", x, x.part(), 59 * 200);
        due("P16 one tongue", x.spans(), 1);
        refused("P21 one tongue", x, x.tells(0, 0), 1);
        refused("P21 one tongue", x, x.tells(0, 1), 1);
        text(x, "b");
        taken("P19 one tongue, one word", x, x.fixed(), 1);
        x.tongue();
        taken("P18 two tongues", x, x.sure(0), 0);
        taken("P19 two tongues, one word", x, x.fixed(), 0);
    }

    private static void told() {
        TongueTeller x = withKeywords(2);
        due("P15 ahead of any", x.told(0), -1);
        refused("P14 no text", x, x.part(), 5);
        due("P15 behind one that was refused", x.told(0), -1);
        text(x, "b a b");
        due("P15 a text, not parted", x.told(0), -1);
        x.set(100, 100);
        x.part();
        toldRow("P15", x, 1, 0, 1);
        for (int i : outside(-1, 3)) {
            due("P15 word " + i, x.told(i), -1);
        }
        text(x, "a");
        toldRow("P15 another text, not parted", x, 1, 0, 1);
        text(x, "a ".repeat(61));
        x.set(2000, 1);
        keyword(x, 0, "b");
        toldRow("P15 as it was then", x, 1, 0, 1);
        x.part();
        toldRow("P15 the latest", x, 0);
        more(x, " a");
        toldRow("P15 more isn't parted", x, 0);
    }

    private static void spans() {
        TongueTeller x = withKeywords(2);
        due("P16 ahead of any", x.spans(), -1);
        due("P17 ahead of any", x.span(0, 0), -1);
        x.part();
        due("P16 behind one that was refused", x.spans(), -1);
        text(x, "a a b");
        due("P16 a text, not parted", x.spans(), -1);
        x.sure(0);
        x.fixed();
        due("P16 neither sure nor fixed is a part", x.spans(), -1);
        x.part();
        due("P16", x.spans(), 2);
        int[][] due = {{0, 2, 0}, {2, 1, 1}};
        for (int i = 0; i < 2; i++) {
            for (int what = 0; what < 3; what++) {
                due("P17 " + i + " " + what, x.span(i, what), due[i][what]);
            }
        }
        for (int i : outside(-1, 2)) {
            due("P17 span " + i, x.span(i, 0), -1);
            due("P17 span " + i, x.span(i, 1), -1);
            due("P17 span " + i, x.span(i, 2), -1);
        }
        for (int what : outside(-1, 3)) {
            due("P17 what " + what, x.span(0, what), -1);
        }
        text(x, "1");
        due("P16 another text, not parted", x.spans(), 2);
        due("P17 another text, not parted", x.span(1, 0), 2);
        x.part();
        due("P16 one word", x.spans(), 1);
        due("P17 one word", x.span(0, 1), 1);
        due("P17 no second", x.span(1, 1), -1);
    }

    private static void sure() {
        TongueTeller x = withKeywords(2);
        text(x, "a a a");
        taken("P18 in the middle: two changes", x, x.sure(1), 500 + 400);
        taken("P18 at the first: one change", x, x.sure(0), 500 + 200);
        taken("P18 at the last: one change", x, x.sure(2), 500 + 200);
        for (int i : outside(-1, 3)) {
            refused("P18 word " + i, x, x.sure(i), 1);
        }
        x.set(2000, 100);
        due("P18 all change", x.sure(1), 1500);
        x.set(0, 100);
        due("P18 changes for nothing", x.sure(1), 500);
        text(x, "a");
        x.set(2000, 100);
        due("P18 one word", x.sure(0), 500);
        TongueTeller y = withKeywords(8);
        text(y, "h ".repeat(60));
        due("P18 the last of sixty", y.sure(59), 700);
        due("P18 within sixty", y.sure(30), 900);
        refused("P18 the 61st", y, y.sure(60), 1);
        y.set(0, 100);
        keyword(y, 6, "h");
        due("P18 two tongues have it", y.sure(59), 0);
    }

    /** The cheapest parting is that of the ties' rule; what else is as cheap is 0 dearer. */
    private static void sureAtTies() {
        TongueTeller x = withKeywords(2);
        x.set(500, 100);
        text(x, "a b");
        due("P18 0 0 or 0 1 or 1 1: the first word", x.sure(0), 0);
        due("P18 0 0 or 0 1 or 1 1: the second", x.sure(1), 0);
        x.set(499, 100);
        due("P18 0 1: the first word", x.sure(0), 1);
        due("P18 0 1: the second", x.sure(1), 1);
        x.set(501, 100);
        due("P18 0 0: the first word, by 1 1", x.sure(0), 0);
        due("P18 0 0: the second, by 1 1", x.sure(1), 0);
        text(x, "a a b");
        x.set(501, 100);
        due("P18 0 0 0, by 1 1 1", x.sure(0), 500);
        due("P18 0 0 0, by 0 0 1", x.sure(2), 1);
        text(x, "a 1 b");
        x.set(200, 100);
        due("P18 a mark between", x.sure(1), 0);
    }

    private static void fixed() {
        TongueTeller x = withKeywords(2);
        text(x, "x");
        taken("P19 one word", x, x.fixed(), 0);
        text(x, "a");
        taken("P19 one keyword", x, x.fixed(), 0);
        text(x, "a x");
        taken("P19 the last never is", x, x.fixed(), 1);
        text(x, "x x");
        taken("P19 two that say nothing", x, x.fixed(), 0);
        text(x, "a 1 1 1");
        taken("P19 to the lesser as late as can be", x, x.fixed(), 3);
        text(x, "b 1 1 1");
        taken("P19 to the lesser as early as can be", x, x.fixed(), 1);
        text(x, "1 1 1 a");
        taken("P19 marks ahead", x, x.fixed(), 0);
        text(x, "1 1 1 b");
        taken("P19 marks ahead of the greater", x, x.fixed(), 0);
        TongueTeller y = withKeywords(8);
        text(y, "h ".repeat(60));
        taken("P19 sixty words", y, y.fixed(), 59);
        y.set(2000, 100);
        taken("P19 sixty words, a dear change", y, y.fixed(), 59);
        text(y, "h h h h h");
        taken("P19 all else as dear as a change", y, y.fixed(), 0);
        text(y, "h h h h h h");
        taken("P19 all else dearer than a change", y, y.fixed(), 5);
    }

    /** Keywords a, b: bound to the other at the end, the way there is as dear at a CHANGE of 500. */
    private static void fixedAtTies() {
        TongueTeller x = withKeywords(2);
        text(x, "a b");
        x.set(500, 100);
        due("P19 0 1 ahead of 1 1", x.fixed(), 1);
        x.set(501, 100);
        due("P19 1 1 is cheaper", x.fixed(), 0);
        text(x, "b a");
        x.set(500, 100);
        due("P19 0 0 ahead of 1 0", x.fixed(), 0);
        x.set(499, 100);
        due("P19 1 0 is cheaper", x.fixed(), 1);
        x.set(0, 100);
        text(x, "b a b");
        due("P19 changes for nothing: all but the last", x.fixed(), 2);
        text(x, "1 2 3");
        due("P19 and of marks, too", x.fixed(), 2);
        text(x, "a b");
        x.set(200, 100);
        due("P19 as it was", x.fixed(), 1);
        learn(x, 0, "cc");
        learn(x, 1, "dd");
        text(x, "cc dd");
        due("P19 too little to be fixed", x.fixed(), 0);
        x.set(59, 100);
        due("P19 enough", x.fixed(), 1);
    }

    private static void whole() {
        TongueTeller x = withKeywords(3);
        text(x, "a b c 1 xy");
        for (int tongue = 0; tongue < 3; tongue++) {
            taken("P20 tongue " + tongue, x, x.whole(tongue), 500 + 500 + 300);
        }
        for (int tongue : outside(-1, 3)) {
            refused("P20 tongue " + tongue, x, x.whole(tongue), 1);
        }
        x.set(2000, 100);
        due("P20 no change in it", x.whole(0), 1300);
        learn(x, 2, "xy");
        due("P20 as all is now", x.whole(2), 1240);
        text(x, ("q".repeat(24) + " ").repeat(24));
        due("P20 24 words of 24", x.whole(0), 24 * 2500);
        due("P20 sixty words", text(x, "b ".repeat(60)), 60);
        due("P20 sixty words", x.whole(0), 60 * 500);
        due("P20 sixty keywords", x.whole(1), 0);
    }

    private static void tells() {
        TongueTeller x = withKeywords(2);
        text(x, "b a b a");
        x.set(200, 500);
        taken("P21 at least GAP", x, x.tells(0, 1), 1);
        tellingRow("P22 the first of like ones", x, 1);
        taken("P21 for the other", x, x.tells(1, 0), 1);
        tellingRow("P22 for the other", x, 0);
        x.set(200, 501);
        taken("P21 one is too little", x, x.tells(0, 1), 2);
        tellingRow("P22 two", x, 1, 3);
        x.set(200, 1000);
        taken("P21 two are GAP", x, x.tells(1, 0), 2);
        tellingRow("P22 two for the other", x, 0, 2);
        x.set(200, 1001);
        taken("P21 two are too little", x, x.tells(0, 1), -2);
        due("P21 which isn't refused", x.trouble(), 0);
        refused("P21 with itself", x, x.tells(0, 0), 1);
        refused("P21 none with itself", x, x.tells(5, 5), 1);
        for (int tongue : outside(-1, 2)) {
            refused("P21 first " + tongue, x, x.tells(tongue, 0), 1);
            refused("P21 second " + tongue, x, x.tells(0, tongue), 1);
        }
        text(x, "a ".repeat(60));
        x.set(200, 5000);
        taken("P21 ten of sixty", x, x.tells(0, 1), 10);
        taken("P21 not for the other", x, x.tells(1, 0), -2);
        TongueTeller y = withTongues(2);
        learn(y, 1, "e");
        text(y, "e ".repeat(60));
        y.set(200, 2400);
        taken("P21 sixty of sixty", y, y.tells(1, 0), 60);
        due("P22 the sixtieth", Check.tellingOf(y, 59), 59);
        due("P22 no 61st", Check.tellingOf(y, 60), THROWN);
        y.set(200, 2401);
        taken("P21 sixty are too few", y, y.tells(1, 0), -2);
        y.set(200, 2360);
        taken("P21 59 of sixty", y, y.tells(1, 0), 59);
        due("P22 no sixtieth", Check.tellingOf(y, 59), THROWN);
    }

    /** "those with the greatest difference, of like ones the first; in the order of THE TEXT" */
    private static void telling() {
        TongueTeller x = withKeywords(2);
        due("P22 ahead of any", Check.tellingOf(x, 0), THROWN);
        learn(x, 0, "pq rs rs");
        text(x, "pq b rs a x 5 pq a rs");
        x.set(200, 1);
        due("P21 the greatest", x.tells(0, 1), 1);
        tellingRow("P22 the greatest, not the first", x, 3);
        x.set(200, 1001);
        due("P21 both a, one rs", x.tells(0, 1), 3);
        tellingRow("P22 the first rs", x, 2, 3, 7);
        x.set(200, 1121);
        due("P21 both rs", x.tells(0, 1), 4);
        tellingRow("P22 in the order of the text", x, 2, 3, 7, 8);
        x.set(200, 1241);
        due("P21 one pq", x.tells(0, 1), 5);
        tellingRow("P22 the first pq", x, 0, 2, 3, 7, 8);
        x.set(200, 1360);
        due("P21 both pq", x.tells(0, 1), 6);
        tellingRow("P22 all that cost less", x, 0, 2, 3, 6, 7, 8);
        x.set(200, 1361);
        due("P21 the others are no help", x.tells(0, 1), -2);
        for (int i : outside(-1, 6)) {
            due("P22 the " + i + "th", Check.tellingOf(x, i), THROWN);
        }
    }

    private static void tellingStays() {
        TongueTeller x = withKeywords(2);
        refused("P21 no text", x, x.tells(0, 1), 5);
        due("P22 behind one that was refused", Check.tellingOf(x, 0), THROWN);
        text(x, "b");
        due("P21 none do", x.tells(0, 1), -2);
        due("P22 behind -2", Check.tellingOf(x, 0), THROWN);
        text(x, "b a a");
        x.set(200, 600);
        due("P21 two", x.tells(0, 1), 2);
        tellingRow("P22 two", x, 1, 2);
        due("P21 none for the other", x.tells(1, 0), -2);
        tellingRow("P22 behind -2", x, 1, 2);
        refused("P21 with itself", x, x.tells(1, 1), 1);
        tellingRow("P22 behind one that was refused", x, 1, 2);
        text(x, "x");
        x.part();
        tellingRow("P22 another text", x, 1, 2);
        due("P21 none of it", x.tells(0, 1), -2);
        tellingRow("P22 still", x, 1, 2);
        text(x, "b b b b");
        due("P21 two of the other", x.tells(1, 0), 2);
        tellingRow("P22 the latest", x, 0, 1);
    }

    /** "TROUBLE of the latest call that may be refused": a refusal's number goes with the next call. */
    private static void troubles() {
        TongueTeller x = withTongues(1);
        due("P24 0 it wasn't", x.trouble(), 0);
        refused("P24 1", x, x.forget(0), 1);
        due("P24 asked twice", x.trouble(), 1);
        refused("P24 2", x, x.text(1), 2);
        refused("P24 3", x, text(x, "a ".repeat(61)), 3);
        name(x, "a");
        due("P24 0 again", x.trouble(), 0);
        refused("P24 4", x, name(x, "a"), 4);
        refused("P24 5", x, x.part(), 5);
        Check.feed(x, "a");
        x.pair(0, 0, 0);
        x.word(0, 0);
        x.cost(0, 0);
        x.told(0);
        x.spans();
        x.span(0, 0);
        x.count(0);
        Check.tellingOf(x, 0);
        due("P24 those without a number leave it", x.trouble(), 5);
        taken("P24 text", x, x.text(1), 1);
        refused("P24 2 by set", x, x.set(-1, 1), 2);
        taken("P24 set", x, x.set(0, 1));
        refused("P24 1 by sure", x, x.sure(1), 1);
        taken("P24 sure", x, x.sure(0), 2147483647L);
        refused("P24 1 by whole", x, x.whole(1), 1);
        taken("P24 whole", x, x.whole(0), 0);
        refused("P24 1 by tells", x, x.tells(0, 0), 1);
        taken("P24 fixed", x, x.fixed(), 1);
        refused("P24 1 by learn", x, x.learn(1, 0), 1);
        taken("P24 learn", x, x.learn(0, 0), 0);
        refused("P24 1 by keyword", x, x.keyword(1, 0), 1);
        taken("P24 keyword", x, keyword(x, 0, "b"), 1);
        refused("P24 2 by more", x, x.more(1), 2);
        taken("P24 more", x, x.more(0), 1);
        refused("P24 1 by forget", x, x.forget(1), 1);
        taken("P24 forget", x, x.forget(0));
        refused("P24 2 by name", x, x.name(0), 2);
        taken("P24 name", x, name(x, "b"), 2);
        refused("P24 1 by tells", x, x.tells(0, 1), 1);
        taken("P24 tongue", x, x.tongue(), 1);
        refused("P24 1 by whole", x, x.whole(2), 1);
        taken("P24 tells", x, x.tells(0, 1), -2);
        refused("P24 1 by sure", x, x.sure(1), 1);
        taken("P24 sure of two tongues", x, x.sure(0), 0);
        refused("P24 1 by sure", x, x.sure(-1), 1);
        taken("P24 part", x, x.part(), 0);
    }
}
