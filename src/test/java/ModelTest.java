import java.util.ArrayDeque;
import java.util.Random;

/** Runs of chance calls, of fixed seeds, on the class and on the model. */
public final class ModelTest {
    private static final int RUNS = 1500;
    private static final int CALLS = 512;
    private static final int CROWDED = 4;
    private static final Check CHECK = new Check();

    private final Random chance;
    private final TongueTeller real = new TongueTeller();
    private final Model model = new Model();
    private final ArrayDeque<String> trail = new ArrayDeque<>();
    private final int letters;
    private final int longest;
    private final int chattiness;
    private int calls = 0;

    private ModelTest(long seed) {
        chance = new Random(seed);
        letters = 1 + chance.nextInt(seed % 5 == 0 ? 27 : 4);
        longest = 1 + chance.nextInt(seed % 7 == 0 ? 30 : 4);
        chattiness = 1 + chance.nextInt(seed % 3 == 0 ? 130 : 30);
    }

    public static void main(String[] args) {
        for (long seed = 0; seed < RUNS && CHECK.wrong() < 10; seed++) {
            new ModelTest(seed).run(seed);
        }
        CHECK.end();
    }

    private void run(long seed) {
        int before = CHECK.wrong();
        if (seed % CROWDED == 0) {
            crowd();
        }
        while (calls < CALLS && CHECK.wrong() == before) {
            step();
        }
        if (CHECK.wrong() > before) {
            System.out.println("  seed " + seed + ", the last calls: " + trail);
        }
    }

    private void same(String call, long got, long want) {
        calls++;
        trail.add(call + " = " + got);
        if (trail.size() > 25) {
            trail.removeFirst();
        }
        CHECK.due(call, got, want);
    }

    private void same(String call, boolean got, boolean want) {
        same(call, got ? 1 : 0, want ? 1 : 0);
    }

    private String word() {
        StringBuilder word = new StringBuilder();
        int length = 1 + chance.nextInt(longest);
        int first = chance.nextInt(letters);
        for (int k = 0; k < length; k++) {
            int letter = chance.nextInt(3) == 0 ? first : chance.nextInt(letters);
            char sign = letter == 26 ? '\'' : (char) ('a' + letter);
            word.append(chance.nextInt(6) == 0 ? Character.toUpperCase(sign) : sign);
        }
        return word.toString();
    }

    private String someText() {
        StringBuilder text = new StringBuilder();
        int parts = chance.nextInt(chattiness);
        for (int k = 0; k < parts; k++) {
            int kind = chance.nextInt(12);
            if (kind == 0) {
                text.append(chance.nextInt(2000));
            } else if (kind == 1) {
                text.append((char) chance.nextInt(256));
            } else if (kind == 2) {
                text.append("  -");
            } else {
                text.append(word());
            }
            if (chance.nextInt(8) != 0) {
                text.append(chance.nextInt(4) == 0 ? ',' : ' ');
            }
        }
        return text.substring(0, Math.min(text.length(), 620));
    }

    /** Feeds both; the number of bytes to use, now and then a wrong one. */
    private int feed(String text) {
        byte[] bytes = text.getBytes(java.nio.charset.StandardCharsets.ISO_8859_1);
        for (int at = 0; at < bytes.length; at += 20) {
            int a = Check.number(bytes, at);
            int b = Check.number(bytes, at + 4);
            int c = Check.number(bytes, at + 8);
            int d = Check.number(bytes, at + 12);
            int e = Check.number(bytes, at + 16);
            same("feed(" + a + ", " + b + ", " + c + ", " + d + ", " + e + ")",
                    real.feed(a, b, c, d, e), model.feed(a, b, c, d, e));
        }
        int odd = chance.nextInt(40);
        int there = model.count(6);
        return odd == 0 ? there + 1 : odd == 1 ? -1 : odd == 2 ? there
                : odd == 3 ? chance.nextInt(there + 1) : Math.min(there, bytes.length);
    }

    private int someTongue() {
        int odd = chance.nextInt(40);
        return odd == 0 ? -1 : odd == 1 ? model.count(0) : odd == 2 ? chance.nextInt()
                : chance.nextInt(Math.max(1, model.count(0)));
    }

    private int someWord() {
        int odd = chance.nextInt(30);
        return odd == 0 ? -1 : odd == 1 ? model.count(4) : odd == 2 ? chance.nextInt()
                : chance.nextInt(Math.max(1, model.count(4)));
    }

    /** Nearly all the room is taken, so that the chance calls come to its bounds. */
    private void crowd() {
        for (int k = 0; k < 7; k++) {
            same("tongue()", real.tongue(), model.tongue());
        }
        for (int k = 0; k < 97; k++) {
            int tongue = k % 7;
            same("learn(" + tongue + ", 0)", real.learn(tongue, 0), model.learn(tongue, 0));
        }
        for (int k = 0; k < 29; k++) {
            int n = feed("n" + (char) ('a' + k % 26) + (char) ('a' + k / 26));
            same("name(" + n + ")", real.name(n), model.name(n));
        }
        for (int k = 0; k < 58; k++) {
            int n = feed("k" + (char) ('a' + k % 26) + (char) ('a' + k / 26));
            same("keyword(" + k % 7 + ", " + n + ")", real.keyword(k % 7, n), model.keyword(k % 7, n));
        }
    }

    private void step() {
        int kind = chance.nextInt(100);
        if (kind < 4) {
            same("tongue()", real.tongue(), model.tongue());
        } else if (kind < 22) {
            change(kind);
        } else if (kind < 40) {
            textCall();
        } else {
            ask();
        }
        if (chance.nextInt(3) == 0) {
            same("trouble()", real.trouble(), model.trouble());
        }
    }

    private void change(int kind) {
        int tongue = someTongue();
        if (kind < 9) {
            int n = feed(chance.nextInt(6) == 0 ? "" : someText());
            same("learn(" + tongue + ", " + n + ")", real.learn(tongue, n), model.learn(tongue, n));
        } else if (kind < 12) {
            int number = chance.nextInt(8) == 0 ? chance.nextInt() : chance.nextInt(5 + model.count(1));
            same("forget(" + number + ")", real.forget(number), model.forget(number));
        } else if (kind < 17) {
            int n = feed(oneWord());
            same("keyword(" + tongue + ", " + n + ")", real.keyword(tongue, n), model.keyword(tongue, n));
        } else if (kind < 19) {
            int n = feed(oneWord());
            same("name(" + n + ")", real.name(n), model.name(n));
        } else {
            int change = chance.nextInt(20) == 0 ? chance.nextInt(3000) - 500
                    : 20 * chance.nextInt(1 + chance.nextInt(60));
            int gap = chance.nextInt(20) == 0 ? chance.nextInt(7000) - 500 : 1 + 20 * chance.nextInt(60);
            same("set(" + change + ", " + gap + ")", real.set(change, gap), model.set(change, gap));
        }
    }

    private String oneWord() {
        int kind = chance.nextInt(12);
        return kind == 0 ? someText() : kind == 1 ? "12" : kind == 2 ? " " + word() + ". " : word();
    }

    private void textCall() {
        int n = feed(someText());
        if (chance.nextInt(2) == 0) {
            same("text(" + n + ")", real.text(n), model.text(n));
        } else {
            same("more(" + n + ")", real.more(n), model.more(n));
        }
    }

    private void ask() {
        int i = someWord();
        int tongue = someTongue();
        int other = someTongue();
        int what = chance.nextInt(9) - 1;
        switch (chance.nextInt(14)) {
            case 0, 1 -> same("part()", real.part(), model.part());
            case 2 -> toldRow();
            case 3 -> same("spans()", real.spans(), model.spans());
            case 4 -> {
                int k = chance.nextInt(8) - 1;
                same("span(" + k + ", " + what + ")", real.span(k, what), model.span(k, what));
            }
            case 5, 6 -> same("sure(" + i + ")", real.sure(i), model.sure(i));
            case 7 -> same("fixed()", real.fixed(), model.fixed());
            case 8 -> same("whole(" + tongue + ")", real.whole(tongue), model.whole(tongue));
            case 9 -> same("tells(" + tongue + ", " + other + ")", real.tells(tongue, other), model.tells(tongue, other));
            case 10 -> {
                int k = chance.nextInt(8) - 1;
                same("telling(" + k + ")", Check.tellingOf(real, k), model.telling(k));
            }
            case 11 -> same("count(" + what + ")", real.count(what), model.count(what));
            case 12 -> same("word(" + i + ", " + what + ")", real.word(i, what), model.word(i, what));
            default -> {
                same("cost(" + i + ", " + tongue + ")", real.cost(i, tongue), model.cost(i, tongue));
                int first = chance.nextInt(6) == 0 ? 27 : chance.nextInt(letters + 2) - 1;
                int second = chance.nextInt(6) == 0 ? 28 - chance.nextInt(2) : chance.nextInt(letters);
                same("pair(" + tongue + ", " + first + ", " + second + ")",
                        real.pair(tongue, first, second), model.pair(tongue, first, second));
            }
        }
    }

    private void toldRow() {
        int bound = chance.nextInt(12);
        for (int i = bound; i < bound + 8; i++) {
            same("told(" + i + ")", real.told(i), model.told(i));
        }
    }
}
