import java.nio.charset.StandardCharsets;

/** Counts answers that are not due, and feeds texts. */
final class Check {
    private int wrong = 0;
    private int asked = 0;

    void due(String what, long got, long want) {
        asked++;
        if (got != want) {
            wrong++;
            System.out.println(what + " answered " + got + ", due is " + want);
        }
    }

    void due(String what, boolean got, boolean want) {
        due(what, got ? 1 : 0, want ? 1 : 0);
    }

    int wrong() {
        return wrong;
    }

    void end() {
        System.out.println(asked + " answers, " + wrong + " of them not as due");
        if (wrong != 0) {
            System.exit(1);
        }
    }

    /** The word's place, or -100 where NoSuchElementException comes. */
    static int tellingOf(TongueTeller x, int i) {
        try {
            return x.telling(i);
        } catch (java.util.NoSuchElementException none) {
            return -100;
        }
    }

    /** The text comes behind the tape, with blanks up to the next twenty; its length. */
    static int feed(TongueTeller x, String text) {
        byte[] bytes = text.getBytes(StandardCharsets.ISO_8859_1);
        for (int at = 0; at < bytes.length; at += 20) {
            x.feed(number(bytes, at), number(bytes, at + 4), number(bytes, at + 8),
                    number(bytes, at + 12), number(bytes, at + 16));
        }
        return bytes.length;
    }

    static int number(byte[] bytes, int at) {
        int number = 0;
        for (int k = at; k < at + 4; k++) {
            number = number << 8 | (k < bytes.length ? bytes[k] & 255 : ' ');
        }
        return number;
    }
}
