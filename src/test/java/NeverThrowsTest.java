import java.util.NoSuchElementException;
import java.util.Random;

/** Any arguments in any state: only telling() throws, and that only NoSuchElementException. */
public final class NeverThrowsTest {
    private static final int RUNS = 200;
    private static final int CALLS = 3000;
    private static final int[] ODD = {Integer.MIN_VALUE, -29, -2, -1, 0, 1, 2, 3, 7, 8, 20, 26, 27, 28, 59, 60,
        61, 99, 100, 101, 599, 600, 601, 2000, 2001, 5000, 5001, Integer.MAX_VALUE};
    private static final Check CHECK = new Check();

    private final Random chance;
    private final TongueTeller x = new TongueTeller();

    private NeverThrowsTest(long seed) {
        chance = new Random(seed);
    }

    public static void main(String[] args) {
        for (long seed = 0; seed < RUNS; seed++) {
            new NeverThrowsTest(seed).run(seed);
        }
        CHECK.end();
    }

    private void run(long seed) {
        for (int k = 0; k < CALLS; k++) {
            int call = chance.nextInt(26);
            boolean fine = true;
            try {
                one(call);
            } catch (NoSuchElementException none) {
                fine = call == 20;
            } catch (RuntimeException thrown) {
                System.out.println("seed " + seed + ", call " + call + ": " + thrown);
                fine = false;
            }
            CHECK.due("seed " + seed + ", call " + call + " fine", fine, true);
        }
    }

    private int odd() {
        return chance.nextInt(3) == 0 ? chance.nextInt(12) : ODD[chance.nextInt(ODD.length)];
    }

    private int four() {
        String signs = "aAzZ'bc 019-,.e";
        int number = 0;
        for (int k = 0; k < 4; k++) {
            int sign = chance.nextInt(20) == 0 ? chance.nextInt(256) : signs.charAt(chance.nextInt(signs.length()));
            number = number << 8 | sign;
        }
        return number;
    }

    private void one(int call) {
        switch (call) {
            case 0 -> x.tongue();
            case 1 -> x.learn(odd(), odd());
            case 2 -> x.forget(odd());
            case 3 -> x.keyword(odd(), odd());
            case 4 -> x.name(odd());
            case 5 -> x.set(odd(), odd());
            case 6 -> x.pair(odd(), odd(), odd());
            case 7 -> x.text(odd());
            case 8 -> x.more(odd());
            case 9 -> x.word(odd(), odd());
            case 10 -> x.cost(odd(), odd());
            case 11 -> x.part();
            case 12 -> x.told(odd());
            case 13 -> x.spans();
            case 14 -> x.span(odd(), odd());
            case 15 -> x.sure(odd());
            case 16 -> x.fixed();
            case 17 -> x.whole(odd());
            case 18, 19 -> x.tells(odd(), odd());
            case 20 -> x.telling(odd());
            case 21 -> x.count(odd());
            case 22 -> x.trouble();
            default -> x.feed(four(), four(), four(), four(), four());
        }
    }
}
