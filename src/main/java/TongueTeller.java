import java.util.NoSuchElementException;

/** Parts a text into spans of tongues, by costs of letters' pairs that it learnt from texts. */
public final class TongueTeller {
    public static final int NONE = -1;

    private static final int NO_SET_TELLS = -2;

    private static final int MOST_TONGUES = 8;
    private static final int MOST_BYTES = 600;
    private static final int MOST_WORDS = 60;
    private static final int MOST_LETTERS = 24;
    private static final int MOST_KEYWORDS = 60;
    private static final int MOST_NAMES = 30;
    private static final int MOST_LEARNT = 100;
    private static final int BYTES_FED = 20;
    private static final int MOST_CHANGE = 2000;
    private static final int MOST_GAP = 5000;

    // 0 .. 25 are the letters; PAIRS are of signs below DIGIT alone.
    private static final int APOSTROPHE = 26;
    private static final int EDGE = 27;
    private static final int SIGNS = 28;
    private static final int DIGIT = 28;
    private static final int PARTER = 29;

    private static final int DEAREST_PAIR = 100;
    private static final int CHEAPER_BY_DOUBLING = 20;
    private static final int STRANGE_KEYWORD = 300;
    private static final int DECIDES_NOTHING = -1;
    // Far above any parting's cost (60 words and changes stay below 300,000), far below an overflow.
    private static final int BARRED = 1 << 28;

    private static final int FINE = 0;
    private static final int NONE_SUCH = 1;
    private static final int BAD_NUMBER = 2;
    private static final int NO_ROOM = 3;
    private static final int THERE_ALREADY = 4;
    private static final int NOTHING_TO_PART = 5;

    private final byte[] tape = new byte[MOST_BYTES];
    private int tapeSize = 0;

    private final Tongues tongues = new Tongues();
    private final Learnt[] held = new Learnt[MOST_LEARNT];
    private int heldCount = 0;
    private int nextLearnt = 0;
    private final WordList keywords = new WordList(MOST_KEYWORDS);
    private final int[] keepers = new int[MOST_KEYWORDS];
    private final WordList names = new WordList(MOST_NAMES);
    private int change = 200;
    private int gap = 100;

    private Script theText = new Script();
    private Script draft = new Script();
    private boolean hasText = false;
    private final Way way = new Way();
    private final Parting latest = new Parting();
    private final Telling tellers = new Telling();
    private int latestTrouble = FINE;

    public TongueTeller() {
    }

    public int feed(int a, int b, int c, int d, int e) {
        if (tapeSize > MOST_BYTES - BYTES_FED) {
            return NONE;
        }
        putBytes(a);
        putBytes(b);
        putBytes(c);
        putBytes(d);
        putBytes(e);
        return tapeSize;
    }

    public int tongue() {
        if (tongues.size >= MOST_TONGUES) {
            return refuse(NO_ROOM);
        }
        tongues.size++;
        return grant(tongues.size - 1);
    }

    public int learn(int tongue, int n) {
        if (!tongues.has(tongue)) {
            return refuse(NONE_SUCH);
        }
        if (!isOnTape(n)) {
            return refuse(BAD_NUMBER);
        }
        boolean fits = draftFromTape(n);
        int place = freePlace();
        if (!fits || place == NONE) {
            return refuse(NO_ROOM);
        }
        Learnt fresh = new Learnt(nextLearnt, tongue, trailOfDraft());
        held[place] = fresh;
        tongues.countTrail(tongue, fresh.trail, 1);
        heldCount++;
        nextLearnt++;
        return grant(fresh.number);
    }

    public boolean forget(int learnt) {
        int place = placeOf(learnt);
        Learnt old = place == NONE ? null : held[place];
        if (old == null) {
            refuse(NONE_SUCH);
            return false;
        }
        tongues.countTrail(old.tongue, old.trail, -1);
        held[place] = null;
        heldCount--;
        grant(FINE);
        return true;
    }

    public int keyword(int tongue, int n) {
        if (!tongues.has(tongue)) {
            return refuse(NONE_SUCH);
        }
        if (!isOnTape(n) || !draftIsOneWord(n)) {
            return refuse(BAD_NUMBER);
        }
        int place = keywords.placeOf(draft, 0);
        if (place != NONE && (keepers[place] >> tongue & 1) != 0) {
            return refuse(THERE_ALREADY);
        }
        if (place == NONE) {
            place = keywords.take(draft, 0);
        }
        if (place == NONE) {
            return refuse(NO_ROOM);
        }
        keepers[place] |= 1 << tongue;
        return grant(Integer.bitCount(keepers[place]));
    }

    public int name(int n) {
        if (!isOnTape(n) || !draftIsOneWord(n)) {
            return refuse(BAD_NUMBER);
        }
        if (names.placeOf(draft, 0) != NONE) {
            return refuse(THERE_ALREADY);
        }
        if (names.take(draft, 0) == NONE) {
            return refuse(NO_ROOM);
        }
        return grant(names.size);
    }

    public boolean set(int change, int gap) {
        if (change < 0 || change > MOST_CHANGE || gap < 1 || gap > MOST_GAP) {
            refuse(BAD_NUMBER);
            return false;
        }
        this.change = change;
        this.gap = gap;
        grant(FINE);
        return true;
    }

    public int pair(int tongue, int first, int second) {
        if (!tongues.has(tongue) || !isSign(first) || !isSign(second)) {
            return NONE;
        }
        return tongues.counted(tongue, first, second);
    }

    public int text(int n) {
        if (!isOnTape(n)) {
            return refuse(BAD_NUMBER);
        }
        return draftFromTape(n) ? draftBecomesText() : refuse(NO_ROOM);
    }

    public int more(int n) {
        if (!isOnTape(n)) {
            return refuse(BAD_NUMBER);
        }
        draft.empty();
        draft.append(theText.signs, theText.size);
        return tapeBehindDraft(n) ? draftBecomesText() : refuse(NO_ROOM);
    }

    public int word(int i, int what) {
        if (!isWord(i)) {
            return NONE;
        }
        switch (what) {
            case 0:
                return theText.starts[i];
            case 1:
                return theText.lengths[i];
            case 2:
                return kindOfWord(i);
            default:
                return NONE;
        }
    }

    public int cost(int i, int tongue) {
        if (!isWord(i) || !tongues.has(tongue)) {
            return NONE;
        }
        return costInTongue(i, tongue, keepersOf(i));
    }

    public int part() {
        if (!canPart()) {
            return refuse(NOTHING_TO_PART);
        }
        weighText();
        int least = way.walk();
        latest.keep(way.chosen, way.words);
        return grant(least);
    }

    public int told(int i) {
        return i >= 0 && i < latest.size ? latest.row[i] : NONE;
    }

    public int spans() {
        return latest.made ? latest.spansIn() : NONE;
    }

    public int span(int i, int what) {
        int first = latest.firstOfSpan(i);
        if (first == NONE) {
            return NONE;
        }
        switch (what) {
            case 0:
                return first;
            case 1:
                return latest.lengthOfSpan(first);
            case 2:
                return latest.row[first];
            default:
                return NONE;
        }
    }

    public int sure(int i) {
        if (!canPart()) {
            return refuse(NOTHING_TO_PART);
        }
        if (!isWord(i)) {
            return refuse(NONE_SUCH);
        }
        if (tongues.size == 1) {
            return grant(Integer.MAX_VALUE);
        }
        weighText();
        int least = way.walk();
        way.leaveOpen(i, ~(1 << way.chosen[i]));
        return grant(way.walk() - least);
    }

    public int fixed() {
        if (!canPart()) {
            return refuse(NOTHING_TO_PART);
        }
        weighText();
        return grant(way.alikeForEachEnd());
    }

    public int whole(int tongue) {
        if (!canPart()) {
            return refuse(NOTHING_TO_PART);
        }
        if (!tongues.has(tongue)) {
            return refuse(NONE_SUCH);
        }
        int sum = 0;
        for (int i = 0; i < theText.words; i++) {
            sum += costInTongue(i, tongue, keepersOf(i));
        }
        return grant(sum);
    }

    public int tells(int tongue, int other) {
        if (!canPart()) {
            return refuse(NOTHING_TO_PART);
        }
        if (!tongues.has(tongue) || !tongues.has(other) || tongue == other) {
            return refuse(NONE_SUCH);
        }
        weighText();
        return grant(tellers.choose(way, tongue, other, gap));
    }

    public int telling(int i) throws NoSuchElementException {
        if (i < 0 || i >= tellers.size) {
            throw new NoSuchElementException();
        }
        return tellers.row[i];
    }

    public int count(int what) {
        switch (what) {
            case 0:
                return tongues.size;
            case 1:
                return heldCount;
            case 2:
                return keywords.size;
            case 3:
                return names.size;
            case 4:
                return theText.words;
            case 5:
                return theText.size;
            case 6:
                return tapeSize;
            default:
                return NONE;
        }
    }

    public int trouble() {
        return latestTrouble;
    }

    private int refuse(int why) {
        latestTrouble = why;
        return NONE;
    }

    private int grant(int answer) {
        latestTrouble = FINE;
        return answer;
    }

    private void putBytes(int number) {
        for (int shift = 24; shift >= 0; shift -= 8) {
            tape[tapeSize] = (byte) signOf(number >>> shift & 255);
            tapeSize++;
        }
    }

    private static int signOf(int sign) {
        if (sign >= 'a' && sign <= 'z') {
            return sign - 'a';
        }
        if (sign >= 'A' && sign <= 'Z') {
            return sign - 'A';
        }
        if (sign >= '0' && sign <= '9') {
            return DIGIT;
        }
        return sign == '\'' ? APOSTROPHE : PARTER;
    }

    private static boolean isSign(int sign) {
        return sign >= 0 && sign < SIGNS;
    }

    private boolean isOnTape(int n) {
        return n >= 0 && n <= tapeSize;
    }

    private boolean draftFromTape(int n) {
        draft.empty();
        return tapeBehindDraft(n);
    }

    // The tape is empty afterwards whether or not the draft can be used: only a bad n leaves it.
    private boolean tapeBehindDraft(int n) {
        tapeSize = 0;
        return draft.append(tape, n) && draft.findWords();
    }

    private boolean draftIsOneWord(int n) {
        return draftFromTape(n) && draft.words == 1 && !draft.isMark(0);
    }

    // The two scripts change places, so that no call makes a new one.
    private int draftBecomesText() {
        Script former = theText;
        theText = draft;
        draft = former;
        hasText = true;
        return grant(theText.words);
    }

    private int freePlace() {
        for (int place = 0; place < held.length; place++) {
            if (held[place] == null) {
                return place;
            }
        }
        return NONE;
    }

    private int placeOf(int number) {
        for (int place = 0; place < held.length; place++) {
            Learnt one = held[place];
            if (one != null && one.number == number) {
                return place;
            }
        }
        return NONE;
    }

    // The words that count, each between edges; neighbours share one. Names are left out now:
    // when the text is forgotten there may be more of them, and those must not matter.
    private byte[] trailOfDraft() {
        int length = 1;
        for (int i = 0; i < draft.words; i++) {
            length += countsInDraft(i) ? draft.lengths[i] + 1 : 0;
        }
        byte[] trail = new byte[length];
        trail[0] = (byte) EDGE;
        int end = 1;
        for (int i = 0; i < draft.words; i++) {
            if (countsInDraft(i)) {
                System.arraycopy(draft.signs, draft.starts[i], trail, end, draft.lengths[i]);
                end += draft.lengths[i];
                trail[end] = (byte) EDGE;
                end++;
            }
        }
        return trail;
    }

    private boolean countsInDraft(int i) {
        return !draft.isMark(i) && names.placeOf(draft, i) == NONE;
    }

    private boolean isWord(int i) {
        return i >= 0 && i < theText.words;
    }

    private boolean canPart() {
        return hasText && tongues.size > 0;
    }

    private int kindOfWord(int i) {
        if (theText.isMark(i)) {
            return 1;
        }
        if (names.placeOf(theText, i) != NONE) {
            return 2;
        }
        return keywords.placeOf(theText, i) != NONE ? 3 : 0;
    }

    // A bit for each tongue that has the word as a keyword; DECIDES_NOTHING for marks and names.
    private int keepersOf(int i) {
        if (theText.isMark(i) || names.placeOf(theText, i) != NONE) {
            return DECIDES_NOTHING;
        }
        int place = keywords.placeOf(theText, i);
        return place == NONE ? 0 : keepers[place];
    }

    private int costInTongue(int i, int tongue, int keepers) {
        if (keepers == DECIDES_NOTHING || (keepers >> tongue & 1) != 0) {
            return 0;
        }
        int spelt = tongues.costOfSpelling(tongue, theText, i);
        return keepers == 0 ? spelt : spelt + STRANGE_KEYWORD;
    }

    private void weighText() {
        way.begin(theText.words, tongues.size, change);
        for (int i = 0; i < theText.words; i++) {
            int keepers = keepersOf(i);
            for (int tongue = 0; tongue < tongues.size; tongue++) {
                way.costs[i * MOST_TONGUES + tongue] = costInTongue(i, tongue, keepers);
            }
        }
    }

    /** The signs of a text, and where its words stand. */
    private static final class Script {
        final byte[] signs = new byte[MOST_BYTES];
        final int[] starts = new int[MOST_WORDS];
        final int[] lengths = new int[MOST_WORDS];
        int size = 0;
        int words = 0;

        void empty() {
            size = 0;
            words = 0;
        }

        boolean append(byte[] from, int n) {
            if (n < 0 || n > from.length || n > signs.length - size) {
                return false;
            }
            System.arraycopy(from, 0, signs, size, n);
            size += n;
            return true;
        }

        boolean findWords() {
            words = 0;
            for (int at = 0; at < size; at++) {
                if (beginsWord(at)) {
                    if (words >= MOST_WORDS) {
                        return false;
                    }
                    starts[words] = at;
                    lengths[words] = lengthFrom(at);
                    words++;
                }
            }
            return true;
        }

        boolean isMark(int i) {
            return signs[starts[i]] == DIGIT;
        }

        private boolean beginsWord(int at) {
            int kind = kindOf(signs[at]);
            return kind != PARTER && (at == 0 || kindOf(signs[at - 1]) != kind);
        }

        private int lengthFrom(int at) {
            int kind = kindOf(signs[at]);
            int bound = kind == DIGIT ? size : Math.min(size, at + MOST_LETTERS);
            int end = at + 1;
            while (end < bound && kindOf(signs[end]) == kind) {
                end++;
            }
            return end - at;
        }

        // All letters are of one kind: that of the first.
        private static int kindOf(int sign) {
            return sign <= APOSTROPHE ? 0 : sign;
        }
    }

    /** Words by their letters, each once. */
    private static final class WordList {
        final byte[] letters;
        final int[] lengths;
        int size = 0;

        WordList(int most) {
            int places = Math.max(0, Math.min(most, MOST_KEYWORDS));
            letters = new byte[places * MOST_LETTERS];
            lengths = new int[places];
        }

        int placeOf(Script script, int i) {
            for (int place = 0; place < size; place++) {
                if (isSame(place, script, i)) {
                    return place;
                }
            }
            return NONE;
        }

        int take(Script script, int i) {
            int length = script.lengths[i];
            if (size >= lengths.length || length > MOST_LETTERS) {
                return NONE;
            }
            System.arraycopy(script.signs, script.starts[i], letters, size * MOST_LETTERS, length);
            lengths[size] = length;
            size++;
            return size - 1;
        }

        private boolean isSame(int place, Script script, int i) {
            int length = lengths[place];
            if (script.lengths[i] != length) {
                return false;
            }
            int at = script.starts[i];
            for (int k = 0; k < length; k++) {
                if (letters[place * MOST_LETTERS + k] != script.signs[at + k]) {
                    return false;
                }
            }
            return true;
        }
    }

    /** A learnt text: what it added to the counts, so that this can be taken back. */
    private static final class Learnt {
        final int number;
        final int tongue;
        final byte[] trail;

        Learnt(int number, int tongue, byte[] trail) {
            this.number = number;
            this.tongue = tongue;
            this.trail = trail;
        }
    }

    /** The tongues' counts of pairs. */
    private static final class Tongues {
        final int[] counts = new int[MOST_TONGUES * SIGNS * SIGNS];
        int size = 0;

        boolean has(int tongue) {
            return tongue >= 0 && tongue < size;
        }

        int counted(int tongue, int first, int second) {
            return counts[(tongue * SIGNS + first) * SIGNS + second];
        }

        void countTrail(int tongue, byte[] trail, int step) {
            for (int k = 1; k < trail.length; k++) {
                counts[(tongue * SIGNS + trail[k - 1]) * SIGNS + trail[k]] += step;
            }
        }

        int costOfSpelling(int tongue, Script script, int i) {
            int sum = 0;
            int former = EDGE;
            int end = script.starts[i] + script.lengths[i];
            for (int at = script.starts[i]; at < end; at++) {
                sum += costOfPair(tongue, former, script.signs[at]);
                former = script.signs[at];
            }
            return sum + costOfPair(tongue, former, EDGE);
        }

        private int costOfPair(int tongue, int first, int second) {
            int left = DEAREST_PAIR;
            for (int rest = counted(tongue, first, second); rest > 0 && left > 0; rest >>= 1) {
                left -= CHEAPER_BY_DOUBLING;
            }
            return left;
        }
    }

    /** The cheapest way through the words' costs, a tongue for each word. */
    private static final class Way {
        final int[] costs = new int[MOST_WORDS * MOST_TONGUES];
        final int[] behind = new int[MOST_WORDS * MOST_TONGUES];
        final int[] chosen = new int[MOST_WORDS];
        final int[] compared = new int[MOST_WORDS];
        int words = 0;
        int tongues = 0;
        private int change = 0;
        private int boundWord = NONE;
        private int openTongues = 0;

        void begin(int words, int tongues, int change) {
            this.words = words;
            this.tongues = tongues;
            this.change = change;
            boundWord = NONE;
        }

        /** One word may have the tongues of the mask alone. */
        void leaveOpen(int word, int mask) {
            boundWord = word;
            openTongues = mask;
        }

        /** The cheapest way's cost; chosen has its tongues. */
        int walk() {
            int least = costsFromBehind();
            int former = NONE;
            for (int i = 0; i < words; i++) {
                former = cheapestAt(i, former);
                chosen[i] = former;
            }
            return least;
        }

        int alikeForEachEnd() {
            int alike = words;
            for (int end = 0; end < tongues; end++) {
                leaveOpen(words - 1, 1 << end);
                walk();
                if (end == 0) {
                    System.arraycopy(chosen, 0, compared, 0, words);
                }
                alike = firstUnlike(alike);
            }
            return alike;
        }

        // From the last word back, so that the tongues can be chosen from the first word on:
        // of as cheap ways the one with the lesser tongue there is wanted.
        private int costsFromBehind() {
            int least = 0;
            for (int i = words - 1; i >= 0; i--) {
                int leastBehind = least;
                least = Integer.MAX_VALUE;
                for (int tongue = 0; tongue < tongues; tongue++) {
                    int at = i * MOST_TONGUES + tongue;
                    int rest = i == words - 1 ? 0
                            : Math.min(behind[at + MOST_TONGUES], leastBehind + change);
                    behind[at] = costs[at] + rest + (isOpen(i, tongue) ? 0 : BARRED);
                    least = Math.min(least, behind[at]);
                }
            }
            return least;
        }

        private boolean isOpen(int i, int tongue) {
            return i != boundWord || (openTongues >> tongue & 1) != 0;
        }

        private int cheapestAt(int i, int former) {
            int best = 0;
            int least = Integer.MAX_VALUE;
            for (int tongue = 0; tongue < tongues; tongue++) {
                int changed = former == NONE || former == tongue ? 0 : change;
                int whole = behind[i * MOST_TONGUES + tongue] + changed;
                if (whole < least) {
                    least = whole;
                    best = tongue;
                }
            }
            return best;
        }

        private int firstUnlike(int bound) {
            for (int i = 0; i < bound; i++) {
                if (chosen[i] != compared[i]) {
                    return i;
                }
            }
            return bound;
        }
    }

    /** The latest parting: it stays as it was while all else goes on. */
    private static final class Parting {
        final int[] row = new int[MOST_WORDS];
        int size = 0;
        boolean made = false;

        void keep(int[] chosen, int words) {
            System.arraycopy(chosen, 0, row, 0, words);
            size = words;
            made = true;
        }

        int spansIn() {
            int found = 0;
            for (int i = 0; i < size; i++) {
                found += beginsSpan(i) ? 1 : 0;
            }
            return found;
        }

        int firstOfSpan(int wanted) {
            int found = 0;
            for (int i = 0; i < size; i++) {
                if (beginsSpan(i)) {
                    if (found == wanted) {
                        return i;
                    }
                    found++;
                }
            }
            return NONE;
        }

        int lengthOfSpan(int first) {
            int end = first + 1;
            while (end < size && !beginsSpan(end)) {
                end++;
            }
            return end - first;
        }

        private boolean beginsSpan(int i) {
            return i == 0 || row[i] != row[i - 1];
        }
    }

    /** The words that told two tongues apart in the latest asking that found such. */
    private static final class Telling {
        final int[] row = new int[MOST_WORDS];
        int size = 0;
        private final boolean[] taken = new boolean[MOST_WORDS];

        int choose(Way way, int tongue, int other, int gap) {
            for (int i = 0; i < way.words; i++) {
                taken[i] = false;
            }
            int told = 0;
            int gained = 0;
            while (gained < gap && told < way.words) {
                int best = greatestLeft(way, tongue, other);
                if (best == NONE) {
                    return NO_SET_TELLS;
                }
                taken[best] = true;
                gained += lessIn(way, tongue, other, best);
                told++;
            }
            if (gained < gap) {
                return NO_SET_TELLS;
            }
            keepTaken(way.words);
            return told;
        }

        // Only words that cost less in the tongue can help: more of the others never tell.
        private int greatestLeft(Way way, int tongue, int other) {
            int best = NONE;
            int greatest = 0;
            for (int i = 0; i < way.words; i++) {
                int less = lessIn(way, tongue, other, i);
                if (!taken[i] && less > greatest) {
                    greatest = less;
                    best = i;
                }
            }
            return best;
        }

        private static int lessIn(Way way, int tongue, int other, int i) {
            return way.costs[i * MOST_TONGUES + other] - way.costs[i * MOST_TONGUES + tongue];
        }

        private void keepTaken(int words) {
            size = 0;
            for (int i = 0; i < words; i++) {
                if (taken[i]) {
                    row[size] = i;
                    size++;
                }
            }
        }
    }
}
