import java.util.Arrays;

/** What the tests of the class have in common: calls that feed a text first, and states to begin with. */
abstract class TellerTest {
    static final Check CHECK = new Check();
    static final int THROWN = -100;
    static final int[] FAR = {Integer.MIN_VALUE, Integer.MIN_VALUE + 1, -600, Integer.MAX_VALUE - 1, Integer.MAX_VALUE};

    static void due(String what, long got, long want) {
        CHECK.due(what, got, want);
    }

    static void due(String what, boolean got, boolean want) {
        CHECK.due(what, got, want);
    }

    static void refused(String what, TongueTeller x, long got, int trouble) {
        due(what, got, TongueTeller.NONE);
        due(what + ": trouble", x.trouble(), trouble);
    }

    static void refused(String what, TongueTeller x, boolean got, int trouble) {
        due(what, got, false);
        due(what + ": trouble", x.trouble(), trouble);
    }

    static void taken(String what, TongueTeller x, long got, long want) {
        due(what, got, want);
        due(what + ": trouble", x.trouble(), 0);
    }

    static void taken(String what, TongueTeller x, boolean got) {
        due(what, got, true);
        due(what + ": trouble", x.trouble(), 0);
    }

    static int learn(TongueTeller x, int tongue, String text) {
        return x.learn(tongue, Check.feed(x, text));
    }

    static int keyword(TongueTeller x, int tongue, String text) {
        return x.keyword(tongue, Check.feed(x, text));
    }

    static int name(TongueTeller x, String text) {
        return x.name(Check.feed(x, text));
    }

    static int text(TongueTeller x, String text) {
        return x.text(Check.feed(x, text));
    }

    static int more(TongueTeller x, String text) {
        return x.more(Check.feed(x, text));
    }

    static TongueTeller withTongues(int tongues) {
        TongueTeller x = new TongueTeller();
        for (int k = 0; k < tongues; k++) {
            x.tongue();
        }
        return x;
    }

    /** Keywords make words that cost 0 in theirs and 500 in the others, letters' pairs unlearnt. */
    static TongueTeller withKeywords(int tongues) {
        TongueTeller x = withTongues(tongues);
        for (int k = 0; k < tongues; k++) {
            keyword(x, k, "" + (char) ('a' + k));
        }
        return x;
    }

    /** Distinct words of letters alone. */
    static String wordOf(int k) {
        return "w" + (char) ('a' + k / 26) + (char) ('a' + k % 26);
    }

    /** The numbers on the wrong side of both bounds, next to them and far off. */
    static int[] outside(int below, int above) {
        int[] row = Arrays.copyOf(FAR, FAR.length + 2);
        row[FAR.length] = below;
        row[FAR.length + 1] = above;
        return row;
    }

    static void toldRow(String what, TongueTeller x, int... due) {
        for (int i = 0; i < due.length; i++) {
            due(what + " told " + i, x.told(i), due[i]);
        }
        due(what + " told beyond", x.told(due.length), -1);
        due(what + " told below", x.told(-1), -1);
    }

    static void tellingRow(String what, TongueTeller x, int... due) {
        for (int i = 0; i < due.length; i++) {
            due(what + " telling " + i, Check.tellingOf(x, i), due[i]);
        }
        due(what + " telling beyond", Check.tellingOf(x, due.length), THROWN);
        due(what + " telling below", Check.tellingOf(x, -1), THROWN);
    }
}
