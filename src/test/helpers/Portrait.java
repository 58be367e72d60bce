import java.util.ArrayList;
import java.util.List;
import java.util.function.Supplier;
import java.util.function.ToIntFunction;

/**
 * All that calls can show of a state, but TROUBLE. The state is made anew for each lot of asks, so
 * that none of its objects is called more than 512 times if making one takes no more than 300.
 */
final class Portrait {
    private static final int MOST_ASKS = 200;
    private static final int SIGNS = 28;
    private final Supplier<TongueTeller> maker;
    private final List<String> lines = new ArrayList<>();
    private TongueTeller x;
    private int asks = 0;

    private Portrait(Supplier<TongueTeller> maker) {
        this.maker = maker;
        renew();
    }

    static List<String> of(Supplier<TongueTeller> maker, boolean withTape) {
        Portrait portrait = new Portrait(maker);
        portrait.countsAndPairs();
        portrait.wordsAndCosts();
        portrait.formerAnswers();
        portrait.learntNumbers();
        portrait.newAnswers();
        if (withTape) {
            portrait.tape();
        }
        return portrait.lines;
    }

    private void renew() {
        x = maker.get();
        asks = 0;
    }

    /** So many asks that follow go to one object. */
    private void together(int many) {
        if (asks + many > MOST_ASKS) {
            renew();
        }
    }

    private int see(String ask, ToIntFunction<TongueTeller> call) {
        together(1);
        asks++;
        int answer = call.applyAsInt(x);
        lines.add(ask + " = " + answer);
        return answer;
    }

    private void countsAndPairs() {
        int tongues = 0;
        for (int what = 0; what < 6; what++) {
            int kind = what;
            int many = see("count(" + what + ")", y -> y.count(kind));
            tongues = what == 0 ? many : tongues;
        }
        for (int k = 0; k < tongues * SIGNS * SIGNS; k++) {
            int tongue = k / SIGNS / SIGNS;
            int first = k / SIGNS % SIGNS;
            int second = k % SIGNS;
            see("pair(" + tongue + ", " + first + ", " + second + ")", y -> y.pair(tongue, first, second));
        }
    }

    private void wordsAndCosts() {
        int words = x.count(4);
        int tongues = x.count(0);
        for (int k = 0; k <= words; k++) {
            int i = k;
            for (int what = 0; what < 3; what++) {
                int kind = what;
                see("word(" + i + ", " + what + ")", y -> y.word(i, kind));
            }
            for (int t = 0; t <= tongues; t++) {
                int tongue = t;
                see("cost(" + i + ", " + t + ")", y -> y.cost(i, tongue));
            }
        }
    }

    private void formerAnswers() {
        see("spans()", TongueTeller::spans);
        for (int k = 0; k <= 60; k++) {
            int i = k;
            see("told(" + i + ")", y -> y.told(i));
            see("telling(" + i + ")", y -> Check.tellingOf(y, i));
            for (int what = 0; what < 3; what++) {
                int kind = what;
                see("span(" + i + ", " + what + ")", y -> y.span(i, kind));
            }
        }
    }

    private void learntNumbers() {
        renew();
        see("learn(0, 0)", y -> y.learn(0, 0));
        for (int k = 0; k < 130; k++) {
            int number = k;
            see("forget(" + number + ")", y -> y.forget(number) ? 1 : 0);
        }
        renew();
    }

    private void newAnswers() {
        int words = x.count(4);
        int tongues = x.count(0);
        together(words + 3);
        see("part()", TongueTeller::part);
        see("spans()", TongueTeller::spans);
        for (int k = 0; k < words; k++) {
            int i = k;
            see("told(" + i + ")", y -> y.told(i));
        }
        see("fixed()", TongueTeller::fixed);
        for (int k = 0; k < words; k++) {
            int i = k;
            see("sure(" + i + ")", y -> y.sure(i));
        }
        for (int k = 0; k < tongues; k++) {
            int tongue = k;
            see("whole(" + tongue + ")", y -> y.whole(tongue));
            for (int other = 0; other < tongues; other++) {
                kin(tongue, other);
            }
        }
    }

    private void kin(int tongue, int other) {
        together(61);
        int many = see("tells(" + tongue + ", " + other + ")", y -> y.tells(tongue, other));
        for (int k = 0; k < many; k++) {
            int i = k;
            see("telling(" + i + ")", y -> Check.tellingOf(y, i));
        }
    }

    private void tape() {
        renew();
        int bytes = see("count(6)", y -> y.count(6));
        int words = see("text(" + bytes + ")", y -> y.text(bytes));
        for (int k = 0; k < words; k++) {
            int i = k;
            see("word(" + i + ", 0)", y -> y.word(i, 0));
            see("word(" + i + ", 1)", y -> y.word(i, 1));
        }
    }
}
