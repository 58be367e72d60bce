import java.util.List;
import java.util.function.Supplier;
import java.util.function.ToIntFunction;

/**
 * Each refusal that a promise names: its answer, its TROUBLE, what becomes of THE TAPE, and that all
 * else is as it was, as every other call shows it.
 */
public final class RefusalsTest extends TellerTest {
    private static final boolean TAPE_STAYS = true;
    private static final boolean TAPE_GOES = false;

    public static void main(String[] args) {
        tongue();
        learn();
        learnWithoutRoom();
        forget();
        keyword();
        keywordWithoutRoom();
        name();
        nameWithoutRoom();
        set();
        text();
        more();
        withoutText();
        withoutTongue();
        numbersOfWordsAndTongues();
        answersWithoutNumber();
        firstListedIsTold();
        CHECK.end();
    }

    private static void refusal(String what, Supplier<TongueTeller> maker, ToIntFunction<TongueTeller> call,
            int trouble, boolean tapeStays) {
        TongueTeller x = maker.get();
        int bytes = x.count(6);
        refused(what, x, call.applyAsInt(x), trouble);
        due(what + ": tape", x.count(6), tapeStays ? bytes : 0);
        List<String> before = Portrait.of(maker, tapeStays);
        List<String> after = Portrait.of(() -> called(maker, call), tapeStays);
        due(what + ": as many answers", after.size(), before.size());
        for (int k = 0; k < before.size() && k < after.size(); k++) {
            boolean same = before.get(k).equals(after.get(k));
            due(what + ": ahead " + before.get(k) + ", behind " + after.get(k) + ": same", same, true);
        }
    }

    private static TongueTeller called(Supplier<TongueTeller> maker, ToIntFunction<TongueTeller> call) {
        TongueTeller x = maker.get();
        call.applyAsInt(x);
        return x;
    }

    private static int number(boolean answer) {
        return answer ? 1 : TongueTeller.NONE;
    }

    /** Something of all there is: tongues, learnt texts, keywords, names, a text, its parting and tellers. */
    private static TongueTeller lived() {
        TongueTeller x = withTongues(3);
        learn(x, 0, "the cat sat 12 on it's mat");
        learn(x, 1, "der hund ist da");
        learn(x, 1, "das da");
        x.forget(1);
        keyword(x, 0, "the");
        keyword(x, 1, "der");
        keyword(x, 2, "der");
        name(x, "Bob");
        x.set(150, 250);
        text(x, "the cat, Bob! der hund 7 the mat da");
        x.part();
        x.tells(0, 1);
        return x;
    }

    private static Supplier<TongueTeller> livedWithTape(String tape) {
        return () -> {
            TongueTeller x = lived();
            Check.feed(x, tape);
            return x;
        };
    }

    private static void tongue() {
        Supplier<TongueTeller> full = () -> {
            TongueTeller x = lived();
            for (int k = 3; k < 8; k++) {
                x.tongue();
            }
            Check.feed(x, "on the tape");
            return x;
        };
        refusal("P3 tongue: a ninth (3)", full, TongueTeller::tongue, 3, TAPE_STAYS);
    }

    private static void learn() {
        Supplier<TongueTeller> state = livedWithTape("more of it 12");
        for (int tongue : outside(-1, 3)) {
            refusal("P4 learn(" + tongue + ", 5): no such tongue (1)", state, x -> x.learn(tongue, 5), 1, TAPE_STAYS);
        }
        for (int n : outside(-1, 21)) {
            refusal("P4 learn(0, " + n + "): n (2)", state, x -> x.learn(0, n), 2, TAPE_STAYS);
        }
        refusal("P4 learn: n of an empty tape (2)", RefusalsTest::lived, x -> x.learn(0, 1), 2, TAPE_STAYS);
        refusal("P4 learn: 61 words (3)", livedWithTape("a ".repeat(61)), x -> x.learn(0, 122), 3, TAPE_GOES);
        refusal("P4 learn: 61 words, a mark the last (3)", livedWithTape("a ".repeat(60) + "1"),
                x -> x.learn(0, 121), 3, TAPE_GOES);
    }

    private static void learnWithoutRoom() {
        Supplier<TongueTeller> full = () -> {
            TongueTeller x = withTongues(2);
            learn(x, 0, "abc");
            learn(x, 1, "bcd");
            x.forget(1);
            for (int k = 1; k < 100; k++) {
                x.learn(k % 2, 0);
            }
            text(x, "abc bcd");
            Check.feed(x, "abc");
            return x;
        };
        refusal("P4 learn: a hundred that aren't forgotten (3)", full, x -> x.learn(0, 3), 3, TAPE_GOES);
        refusal("P4 learn: nothing, beside a hundred (3)", full, x -> x.learn(1, 0), 3, TAPE_GOES);
        TongueTeller x = full.get();
        due("P4 a hundred", x.count(1), 100);
        taken("P5 forget one of a hundred", x, x.forget(100));
        taken("P4 learn: ninety-nine that aren't forgotten", x, x.learn(0, 3), 101);
        due("P4 learn: counted", x.pair(0, 0, 1), 2);
        refused("P4 learn: a hundred again (3)", x, x.learn(0, 0), 3);
    }

    private static void forget() {
        Supplier<TongueTeller> state = livedWithTape("on the tape");
        for (int number : outside(-1, 3)) {
            refusal("P5 forget(" + number + "): none such (1)", state, x -> number(x.forget(number)), 1, TAPE_STAYS);
        }
        refusal("P5 forget(1): forgotten already (1)", state, x -> number(x.forget(1)), 1, TAPE_STAYS);
    }

    private static void keyword() {
        Supplier<TongueTeller> state = livedWithTape("cat");
        for (int tongue : outside(-1, 3)) {
            refusal("P6 keyword(" + tongue + ", 3): no such tongue (1)", state, x -> x.keyword(tongue, 3), 1, TAPE_STAYS);
        }
        for (int n : outside(-1, 21)) {
            refusal("P6 keyword(0, " + n + "): n (2)", state, x -> x.keyword(0, n), 2, TAPE_STAYS);
        }
        refusal("P6 keyword: no byte (2)", state, x -> x.keyword(0, 0), 2, TAPE_GOES);
        for (String tape : new String[] {"  , ", "12", "a b", "a1", "1a", "a a", "cat 7"}) {
            refusal("P6 keyword: " + tape + ": no such word (2)", livedWithTape(tape),
                    x -> x.keyword(0, tape.length()), 2, TAPE_GOES);
        }
        refusal("P6 keyword: 61 words (2)", livedWithTape("a ".repeat(61)), x -> x.keyword(0, 122), 2, TAPE_GOES);
        refusal("P6 keyword: there already (4)", livedWithTape("THE"), x -> x.keyword(0, 3), 4, TAPE_GOES);
        refusal("P6 keyword: there already, of two (4)", livedWithTape("der"), x -> x.keyword(2, 3), 4, TAPE_GOES);
    }

    private static void keywordWithoutRoom() {
        Supplier<TongueTeller> full = () -> {
            TongueTeller x = withTongues(2);
            for (int k = 0; k < 60; k++) {
                keyword(x, k % 2, wordOf(k));
            }
            text(x, wordOf(0) + " " + wordOf(59) + " zz");
            Check.feed(x, "zz");
            return x;
        };
        refusal("P6 keyword: a 61st (3)", full, x -> x.keyword(0, 2), 3, TAPE_GOES);
        TongueTeller x = full.get();
        due("P6 sixty keywords", x.count(2), 60);
        due("P6 the sixtieth", x.word(1, 2), 3);
        due("P6 no keyword", x.word(2, 2), 0);
    }

    private static void name() {
        Supplier<TongueTeller> state = livedWithTape("cat");
        for (int n : outside(-1, 21)) {
            refusal("P7 name(" + n + "): n (2)", state, x -> x.name(n), 2, TAPE_STAYS);
        }
        refusal("P7 name: no byte (2)", state, x -> x.name(0), 2, TAPE_GOES);
        for (String tape : new String[] {"  , ", "12", "a b", "a1", "1a", "a a", "cat 7"}) {
            refusal("P7 name: " + tape + ": no such word (2)", livedWithTape(tape),
                    x -> x.name(tape.length()), 2, TAPE_GOES);
        }
        refusal("P7 name: 61 words (2)", livedWithTape("a ".repeat(61)), x -> x.name(122), 2, TAPE_GOES);
        refusal("P7 name: there already (4)", livedWithTape("bOB"), x -> x.name(3), 4, TAPE_GOES);
    }

    private static void nameWithoutRoom() {
        Supplier<TongueTeller> full = () -> {
            TongueTeller x = withTongues(2);
            for (int k = 0; k < 30; k++) {
                name(x, wordOf(k));
            }
            text(x, wordOf(0) + " " + wordOf(29) + " zz");
            Check.feed(x, "zz");
            return x;
        };
        refusal("P7 name: a 31st (3)", full, x -> x.name(2), 3, TAPE_GOES);
        TongueTeller x = full.get();
        due("P7 thirty names", x.count(3), 30);
        due("P7 the thirtieth", x.word(1, 2), 2);
        due("P7 no name", x.word(2, 2), 0);
    }

    private static void set() {
        Supplier<TongueTeller> state = livedWithTape("on the tape");
        for (int change : outside(-1, 2001)) {
            refusal("P8 set(" + change + ", 1): (2)", state, x -> number(x.set(change, 1)), 2, TAPE_STAYS);
        }
        for (int gap : outside(0, 5001)) {
            refusal("P8 set(0, " + gap + "): (2)", state, x -> number(x.set(0, gap)), 2, TAPE_STAYS);
        }
        refusal("P8 set(-1, 0): (2)", state, x -> number(x.set(-1, 0)), 2, TAPE_STAYS);
    }

    private static void text() {
        for (int n : outside(-1, 21)) {
            refusal("P10 text(" + n + "): n (2)", livedWithTape("cat"), x -> x.text(n), 2, TAPE_STAYS);
        }
        refusal("P10 text: n of an empty tape (2)", RefusalsTest::lived, x -> x.text(1), 2, TAPE_STAYS);
        refusal("P10 text: 61 words (3)", livedWithTape("a ".repeat(61)), x -> x.text(122), 3, TAPE_GOES);
        refusal("P10 text: 61 words with marks (3)", livedWithTape("a1".repeat(30) + "a"), x -> x.text(61), 3, TAPE_GOES);
        refusal("P10 text: 300 words (3)", livedWithTape("a ".repeat(300)), x -> x.text(600), 3, TAPE_GOES);
    }

    private static void more() {
        for (int n : outside(-1, 21)) {
            refusal("P11 more(" + n + "): n (2)", livedWithTape("cat"), x -> x.more(n), 2, TAPE_STAYS);
        }
        refusal("P11 more: n of an empty tape (2)", RefusalsTest::lived, x -> x.more(1), 2, TAPE_STAYS);
        refusal("P11 more: 61 words (3)", livedWithTape(" a".repeat(52)), x -> x.more(104), 3, TAPE_GOES);
        TongueTeller x = livedWithTape(" a".repeat(52)).get();
        taken("P11 more: 60 words", x, x.more(102), 60);
        String room = "-".repeat(600 - 35);
        refusal("P11 more: 601 bytes (3)", livedWithTape(room + "-"), y -> y.more(566), 3, TAPE_GOES);
        x = livedWithTape(room + "-").get();
        due("P11 the text's bytes", x.count(5), 35);
        taken("P11 more: 600 bytes", x, x.more(565), 9);
        due("P11 600 bytes", x.count(5), 600);
    }

    private static void withoutText() {
        Supplier<TongueTeller> none = () -> {
            TongueTeller x = withTongues(2);
            learn(x, 0, "abc");
            Check.feed(x, "abc");
            return x;
        };
        refusal("P14 part: no text (5)", none, TongueTeller::part, 5, TAPE_STAYS);
        refusal("P18 sure: no text (5)", none, x -> x.sure(0), 5, TAPE_STAYS);
        refusal("P19 fixed: no text (5)", none, TongueTeller::fixed, 5, TAPE_STAYS);
        refusal("P20 whole: no text (5)", none, x -> x.whole(0), 5, TAPE_STAYS);
        refusal("P21 tells: no text (5)", none, x -> x.tells(0, 1), 5, TAPE_STAYS);
        refusal("P10 text: 2, still no text", none, x -> x.text(21), 2, TAPE_STAYS);
        refusal("P11 more: 2, still no text", none, x -> x.more(21), 2, TAPE_STAYS);
        Supplier<TongueTeller> tooMany = () -> {
            TongueTeller x = withTongues(2);
            Check.feed(x, "a ".repeat(61));
            return x;
        };
        refusal("P10 text: 3, still no text", tooMany, x -> x.text(122), 3, TAPE_GOES);
        refusal("P11 more: 3, still no text", tooMany, x -> x.more(122), 3, TAPE_GOES);
        TongueTeller x = tooMany.get();
        x.more(122);
        refused("P14 part behind a text that was refused (5)", x, x.part(), 5);
    }

    private static void withoutTongue() {
        Supplier<TongueTeller> none = () -> {
            TongueTeller x = new TongueTeller();
            name(x, "abc");
            text(x, "abc d");
            Check.feed(x, "abc");
            return x;
        };
        refusal("P14 part: no tongue (5)", none, TongueTeller::part, 5, TAPE_STAYS);
        refusal("P18 sure: no tongue (5)", none, x -> x.sure(0), 5, TAPE_STAYS);
        refusal("P19 fixed: no tongue (5)", none, TongueTeller::fixed, 5, TAPE_STAYS);
        refusal("P20 whole: no tongue (5)", none, x -> x.whole(0), 5, TAPE_STAYS);
        refusal("P21 tells: no tongue (5)", none, x -> x.tells(0, 1), 5, TAPE_STAYS);
        refusal("P4 learn: no tongue (1)", none, x -> x.learn(0, 3), 1, TAPE_STAYS);
        refusal("P6 keyword: no tongue (1)", none, x -> x.keyword(0, 3), 1, TAPE_STAYS);
        TongueTeller x = none.get();
        due("P13 cost: no tongue", x.cost(0, 0), -1);
        due("P9 pair: no tongue", x.pair(0, 0, 0), -1);
        x.tongue();
        taken("P14 part: one tongue", x, x.part(), 200);
    }

    private static void numbersOfWordsAndTongues() {
        Supplier<TongueTeller> state = livedWithTape("on the tape");
        for (int i : outside(-1, 9)) {
            refusal("P18 sure(" + i + "): (1)", state, x -> x.sure(i), 1, TAPE_STAYS);
        }
        for (int tongue : outside(-1, 3)) {
            refusal("P20 whole(" + tongue + "): (1)", state, x -> x.whole(tongue), 1, TAPE_STAYS);
            refusal("P21 tells(" + tongue + ", 0): (1)", state, x -> x.tells(tongue, 0), 1, TAPE_STAYS);
            refusal("P21 tells(2, " + tongue + "): (1)", state, x -> x.tells(2, tongue), 1, TAPE_STAYS);
        }
        for (int tongue = 0; tongue < 3; tongue++) {
            int same = tongue;
            refusal("P21 tells(" + same + ", " + same + "): (1)", state, x -> x.tells(same, same), 1, TAPE_STAYS);
        }
        TongueTeller x = state.get();
        taken("P18 sure of the last word", x, x.sure(8), 50);
        taken("P20 whole of the last tongue", x, x.whole(2), 700 + 400 + 500 + 700 + 400 + 300);
    }

    /** NONE, -2 and what throws leave all as it was, too, and have no TROUBLE of their own. */
    private static void answersWithoutNumber() {
        Supplier<TongueTeller> inTrouble = () -> {
            TongueTeller x = lived();
            Check.feed(x, "-".repeat(600));
            x.text(-1);
            return x;
        };
        refusal("P2 feed: 620 bytes", inTrouble, x -> x.feed(0x61626364, 0, 0, 0, 0), 2, TAPE_STAYS);
        refusal("P9 pair", inTrouble, x -> x.pair(3, 0, 0), 2, TAPE_STAYS);
        refusal("P12 word", inTrouble, x -> x.word(9, 0), 2, TAPE_STAYS);
        refusal("P13 cost", inTrouble, x -> x.cost(9, 0), 2, TAPE_STAYS);
        refusal("P15 told", inTrouble, x -> x.told(9), 2, TAPE_STAYS);
        refusal("P17 span", inTrouble, x -> x.span(9, 0), 2, TAPE_STAYS);
        refusal("P22 telling", inTrouble, x -> Check.tellingOf(x, 9) == THROWN ? -1 : 0, 2, TAPE_STAYS);
        refusal("P23 count", inTrouble, x -> x.count(7), 2, TAPE_STAYS);
        Supplier<TongueTeller> wide = () -> {
            TongueTeller x = inTrouble.get();
            x.set(150, 5000);
            x.text(-1);
            return x;
        };
        refusal("P21 tells: -2 isn't refused", wide, x -> x.tells(0, 1) == -2 ? -1 : 0, 0, TAPE_STAYS);
    }

    private static void firstListedIsTold() {
        TongueTeller x = withTongues(1);
        refused("P4 learn: 1 ahead of 2", x, x.learn(1, 1), 1);
        refused("P6 keyword: 1 ahead of 2", x, x.keyword(1, 1), 1);
        refused("P6 keyword: 1 ahead of no such word", x, x.keyword(-1, 0), 1);
        refused("P18 sure: 5 ahead of 1", x, x.sure(-1), 5);
        refused("P20 whole: 5 ahead of 1", x, x.whole(1), 5);
        refused("P21 tells: 5 ahead of 1", x, x.tells(0, 0), 5);
        for (int k = 0; k < 60; k++) {
            keyword(x, 0, wordOf(k));
        }
        for (int k = 0; k < 30; k++) {
            name(x, wordOf(k));
        }
        refused("P6 keyword: 1 ahead of 3", x, keyword(x, 1, "zz"), 1);
        refused("P6 keyword: n ahead of 3", x, x.keyword(0, 99), 2);
        due("P6 tape stays", x.count(6), 20);
        refused("P6 keyword: no such word ahead of 3", x, x.keyword(0, 0), 2);
        refused("P6 keyword: 4 ahead of 3", x, keyword(x, 0, wordOf(59)), 4);
        refused("P7 name: n ahead of 3", x, x.name(1), 2);
        refused("P7 name: no such word ahead of 3", x, name(x, "1"), 2);
        refused("P7 name: 4 ahead of 3", x, name(x, wordOf(29)), 4);
        for (int k = 0; k < 100; k++) {
            x.learn(0, 0);
        }
        Check.feed(x, "a");
        refused("P4 learn: 1 ahead of 3", x, x.learn(1, 1), 1);
        refused("P4 learn: 2 ahead of 3", x, x.learn(0, 21), 2);
        due("P4 tape stays", x.count(6), 20);
        refused("P4 learn: 3", x, x.learn(0, 1), 3);
        due("P4 tape goes", x.count(6), 0);
    }
}
