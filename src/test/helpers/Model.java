import java.nio.charset.StandardCharsets;
import java.util.ArrayList;
import java.util.Arrays;
import java.util.HashMap;
import java.util.LinkedHashMap;
import java.util.List;
import java.util.Locale;
import java.util.Map;
import java.util.TreeMap;
import java.util.TreeSet;
import java.util.regex.Matcher;
import java.util.regex.Pattern;

/**
 * The document once more, in the plainest way: texts as Strings, every parting and every set of
 * words tried where there are few, so that it shares no way of reckoning with the class.
 */
final class Model {
    static final int THROWN = -100;
    private static final Pattern WORD = Pattern.compile("[a-zA-Z']+|[0-9]+");
    private static final int FEW = 3000;

    record Word(int start, int length, String spelling) {
        boolean mark() {
            return Character.isDigit(spelling.charAt(0));
        }
    }

    record Learnt(int tongue, List<String> words) {
    }

    record Parting(int cost, int[] row) {
    }

    private final StringBuilder tape = new StringBuilder();
    private int tongues = 0;
    private int given = 0;
    private final Map<Integer, Learnt> learnt = new TreeMap<>();
    private final Map<String, TreeSet<Integer>> keywords = new LinkedHashMap<>();
    private final List<String> names = new ArrayList<>();
    private int change = 200;
    private int gap = 100;
    private String text = null;
    private int[] told = null;
    private int[] telling = {};
    private int trouble = 0;

    private int no(int why) {
        trouble = why;
        return -1;
    }

    private int yes(int answer) {
        trouble = 0;
        return answer;
    }

    static List<Word> wordsOf(String text) {
        List<Word> words = new ArrayList<>();
        Matcher found = WORD.matcher(text);
        while (found.find()) {
            String run = found.group().toLowerCase(Locale.ROOT);
            boolean mark = Character.isDigit(run.charAt(0));
            String cut = mark || run.length() <= 24 ? run : run.substring(0, 24);
            words.add(new Word(found.start(), cut.length(), cut));
        }
        return words;
    }

    private List<Word> words() {
        return text == null ? List.of() : wordsOf(text);
    }

    private boolean isTongue(int tongue) {
        return 0 <= tongue && tongue < tongues;
    }

    private String cut(int n) {
        String cut = tape.substring(0, n);
        tape.setLength(0);
        return cut;
    }

    private boolean onTape(int n) {
        return 0 <= n && n <= tape.length();
    }

    int feed(int... numbers) {
        if (tape.length() + 20 > 600) {
            return -1;
        }
        for (int number : numbers) {
            byte[] four = {(byte) (number >> 24), (byte) (number >> 16), (byte) (number >> 8), (byte) number};
            tape.append(new String(four, StandardCharsets.ISO_8859_1));
        }
        return tape.length();
    }

    int tongue() {
        return tongues == 8 ? no(3) : yes(tongues++);
    }

    int learn(int tongue, int n) {
        if (!isTongue(tongue)) {
            return no(1);
        }
        if (!onTape(n)) {
            return no(2);
        }
        List<Word> words = wordsOf(cut(n));
        if (words.size() > 60 || learnt.size() == 100) {
            return no(3);
        }
        List<String> counted = new ArrayList<>();
        for (Word word : words) {
            if (!word.mark() && !names.contains(word.spelling())) {
                counted.add(word.spelling());
            }
        }
        learnt.put(given, new Learnt(tongue, counted));
        return yes(given++);
    }

    boolean forget(int number) {
        if (learnt.remove(number) == null) {
            no(1);
            return false;
        }
        yes(0);
        return true;
    }

    private String oneWord(int n) {
        List<Word> words = wordsOf(cut(n));
        return words.size() == 1 && !words.get(0).mark() ? words.get(0).spelling() : null;
    }

    int keyword(int tongue, int n) {
        if (!isTongue(tongue)) {
            return no(1);
        }
        if (!onTape(n)) {
            return no(2);
        }
        String word = oneWord(n);
        if (word == null) {
            return no(2);
        }
        if (keywords.containsKey(word) && keywords.get(word).contains(tongue)) {
            return no(4);
        }
        if (!keywords.containsKey(word) && keywords.size() == 60) {
            return no(3);
        }
        keywords.computeIfAbsent(word, none -> new TreeSet<>()).add(tongue);
        return yes(keywords.get(word).size());
    }

    int name(int n) {
        if (!onTape(n)) {
            return no(2);
        }
        String word = oneWord(n);
        if (word == null) {
            return no(2);
        }
        if (names.contains(word)) {
            return no(4);
        }
        if (names.size() == 30) {
            return no(3);
        }
        names.add(word);
        return yes(names.size());
    }

    boolean set(int change, int gap) {
        if (change < 0 || change > 2000 || gap < 1 || gap > 5000) {
            no(2);
            return false;
        }
        this.change = change;
        this.gap = gap;
        yes(0);
        return true;
    }

    /** Spelt with its edges, an edge being a brace: the sign behind z. */
    private static List<String> pairsOf(String word) {
        String edged = "{" + word + "{";
        List<String> pairs = new ArrayList<>();
        for (int k = 0; k + 1 < edged.length(); k++) {
            pairs.add(edged.substring(k, k + 2));
        }
        return pairs;
    }

    private Map<String, Integer> countsOf(int tongue) {
        Map<String, Integer> counts = new HashMap<>();
        for (Learnt one : learnt.values()) {
            if (one.tongue() == tongue) {
                for (String word : one.words()) {
                    for (String pair : pairsOf(word)) {
                        counts.merge(pair, 1, Integer::sum);
                    }
                }
            }
        }
        return counts;
    }

    int pair(int tongue, int first, int second) {
        if (!isTongue(tongue) || first < 0 || first > 27 || second < 0 || second > 27) {
            return -1;
        }
        String signs = "abcdefghijklmnopqrstuvwxyz'{";
        return countsOf(tongue).getOrDefault("" + signs.charAt(first) + signs.charAt(second), 0);
    }

    private int become(String fresh) {
        if (fresh.length() > 600 || wordsOf(fresh).size() > 60) {
            return no(3);
        }
        text = fresh;
        return yes(wordsOf(fresh).size());
    }

    int text(int n) {
        return onTape(n) ? become(cut(n)) : no(2);
    }

    int more(int n) {
        return onTape(n) ? become((text == null ? "" : text) + cut(n)) : no(2);
    }

    int word(int i, int what) {
        List<Word> words = words();
        if (i < 0 || i >= words.size() || what < 0 || what > 2) {
            return -1;
        }
        Word word = words.get(i);
        if (what == 2) {
            return word.mark() ? 1 : names.contains(word.spelling()) ? 2
                    : keywords.containsKey(word.spelling()) ? 3 : 0;
        }
        return what == 0 ? word.start() : word.length();
    }

    private int costOf(Word word, int tongue, Map<String, Integer> counts) {
        if (word.mark() || names.contains(word.spelling())) {
            return 0;
        }
        TreeSet<Integer> owners = keywords.get(word.spelling());
        if (owners != null && owners.contains(tongue)) {
            return 0;
        }
        int sum = owners == null ? 0 : 300;
        for (String pair : pairsOf(word.spelling())) {
            int count = counts.getOrDefault(pair, 0);
            sum += count == 0 ? 100 : count == 1 ? 80 : count < 4 ? 60 : count < 8 ? 40 : count < 16 ? 20 : 0;
        }
        return sum;
    }

    private int[][] costs() {
        List<Word> words = words();
        int[][] costs = new int[words.size()][tongues];
        for (int tongue = 0; tongue < tongues; tongue++) {
            Map<String, Integer> counts = countsOf(tongue);
            for (int i = 0; i < words.size(); i++) {
                costs[i][tongue] = costOf(words.get(i), tongue, counts);
            }
        }
        return costs;
    }

    int cost(int i, int tongue) {
        List<Word> words = words();
        if (i < 0 || i >= words.size() || !isTongue(tongue)) {
            return -1;
        }
        return costOf(words.get(i), tongue, countsOf(tongue));
    }

    /** The cheapest parting in which one word has (or, if not, hasn't) one tongue. */
    private Parting cheapest(int[][] costs, int word, int tongue, boolean has) {
        double ways = Math.pow(tongues, costs.length);
        return ways <= FEW ? cheapestOfAll(costs, word, tongue, has) : cheapestByRows(costs, word, tongue, has);
    }

    private static boolean open(int i, int t, int word, int tongue, boolean has) {
        return i != word || (t == tongue) == has;
    }

    private Parting cheapestOfAll(int[][] costs, int word, int tongue, boolean has) {
        int[] row = new int[costs.length];
        Parting best = null;
        // Counted up with the last word as the lowest place, so the first found is the least row.
        while (true) {
            int cost = 0;
            boolean allowed = true;
            for (int i = 0; i < row.length; i++) {
                cost += costs[i][row[i]] + (i > 0 && row[i] != row[i - 1] ? change : 0);
                allowed &= open(i, row[i], word, tongue, has);
            }
            if (allowed && (best == null || cost < best.cost())) {
                best = new Parting(cost, row.clone());
            }
            int at = row.length - 1;
            while (at >= 0 && row[at] == tongues - 1) {
                row[at--] = 0;
            }
            if (at < 0) {
                return best;
            }
            row[at]++;
        }
    }

    /** For each last tongue the best row so far, rows compared whole. */
    private Parting cheapestByRows(int[][] costs, int word, int tongue, boolean has) {
        Parting[] ends = null;
        for (int i = 0; i < costs.length; i++) {
            Parting[] next = new Parting[tongues];
            for (int t = 0; t < tongues; t++) {
                if (!open(i, t, word, tongue, has)) {
                    continue;
                }
                if (ends == null) {
                    next[t] = new Parting(costs[0][t], new int[] {t});
                    continue;
                }
                for (int u = 0; u < tongues; u++) {
                    if (ends[u] != null) {
                        int[] row = Arrays.copyOf(ends[u].row(), i + 1);
                        row[i] = t;
                        int cost = ends[u].cost() + costs[i][t] + (t == u ? 0 : change);
                        next[t] = better(next[t], new Parting(cost, row));
                    }
                }
            }
            ends = next;
        }
        Parting best = null;
        for (Parting end : ends) {
            best = end == null ? best : better(best, end);
        }
        return best;
    }

    private static Parting better(Parting one, Parting other) {
        if (one == null || other.cost() < one.cost()) {
            return other;
        }
        return other.cost() == one.cost() && Arrays.compare(other.row(), one.row()) < 0 ? other : one;
    }

    private boolean cannotPart() {
        return text == null || tongues == 0;
    }

    int part() {
        if (cannotPart()) {
            return no(5);
        }
        Parting best = cheapest(costs(), -1, 0, true);
        told = best.row();
        return yes(best.cost());
    }

    int told(int i) {
        return told == null || i < 0 || i >= told.length ? -1 : told[i];
    }

    private List<int[]> spanRows() {
        List<int[]> rows = new ArrayList<>();
        for (int i = 0; told != null && i < told.length; i++) {
            int[] last = rows.isEmpty() ? null : rows.get(rows.size() - 1);
            if (last != null && last[2] == told[i]) {
                last[1]++;
            } else {
                rows.add(new int[] {i, 1, told[i]});
            }
        }
        return rows;
    }

    int spans() {
        return told == null ? -1 : spanRows().size();
    }

    int span(int i, int what) {
        List<int[]> rows = spanRows();
        return i < 0 || i >= rows.size() || what < 0 || what > 2 ? -1 : rows.get(i)[what];
    }

    int sure(int i) {
        if (cannotPart()) {
            return no(5);
        }
        int[][] costs = costs();
        if (i < 0 || i >= costs.length) {
            return no(1);
        }
        if (tongues == 1) {
            return yes(2147483647);
        }
        Parting best = cheapest(costs, -1, 0, true);
        return yes(cheapest(costs, i, best.row()[i], false).cost() - best.cost());
    }

    int fixed() {
        if (cannotPart()) {
            return no(5);
        }
        int[][] costs = costs();
        int last = costs.length - 1;
        int[] best = cheapest(costs, -1, 0, true).row();
        int fixed = costs.length;
        for (int tongue = 0; tongue < tongues && last >= 0; tongue++) {
            int unlike = Arrays.mismatch(best, cheapest(costs, last, tongue, true).row());
            fixed = unlike < 0 ? fixed : Math.min(fixed, unlike);
        }
        return yes(fixed);
    }

    int whole(int tongue) {
        if (cannotPart()) {
            return no(5);
        }
        if (!isTongue(tongue)) {
            return no(1);
        }
        int sum = 0;
        for (int[] row : costs()) {
            sum += row[tongue];
        }
        return yes(sum);
    }

    int tells(int tongue, int other) {
        if (cannotPart()) {
            return no(5);
        }
        if (!isTongue(tongue) || !isTongue(other) || tongue == other) {
            return no(1);
        }
        int[][] costs = costs();
        int fewest = costs.length <= 11 ? fewestOfSets(costs, tongue, other) : fewestOfSorted(costs, tongue, other);
        if (fewest > 0) {
            int[] first = Arrays.copyOf(sorted(costs, tongue, other), fewest);
            Arrays.sort(first);
            telling = first;
        }
        return yes(fewest);
    }

    private int fewestOfSets(int[][] costs, int tongue, int other) {
        int fewest = -2;
        for (int set = 1; set < 1 << costs.length; set++) {
            int less = 0;
            for (int i = 0; i < costs.length; i++) {
                less += (set >> i & 1) * (costs[i][other] - costs[i][tongue]);
            }
            int size = Integer.bitCount(set);
            if (less >= gap && (fewest < 0 || size < fewest)) {
                fewest = size;
            }
        }
        return fewest;
    }

    private int fewestOfSorted(int[][] costs, int tongue, int other) {
        int less = 0;
        int size = 0;
        for (int i : sorted(costs, tongue, other)) {
            less += costs[i][other] - costs[i][tongue];
            size++;
            if (less >= gap) {
                return size;
            }
        }
        return -2;
    }

    private static int[] sorted(int[][] costs, int tongue, int other) {
        List<Integer> order = new ArrayList<>();
        for (int i = 0; i < costs.length; i++) {
            order.add(i);
        }
        order.sort((i, k) -> (costs[k][other] - costs[k][tongue]) - (costs[i][other] - costs[i][tongue]));
        return order.stream().mapToInt(Integer::intValue).toArray();
    }

    int telling(int i) {
        return i < 0 || i >= telling.length ? THROWN : telling[i];
    }

    int count(int what) {
        switch (what) {
            case 0: return tongues;
            case 1: return learnt.size();
            case 2: return keywords.size();
            case 3: return names.size();
            case 4: return words().size();
            case 5: return text == null ? 0 : text.length();
            case 6: return tape.length();
            default: return -1;
        }
    }

    int trouble() {
        return trouble;
    }
}
