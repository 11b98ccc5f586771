import java.math.BigInteger;
import java.util.ArrayList;
import java.util.Arrays;
import java.util.List;
import java.util.Set;
import java.util.TreeMap;
import java.util.TreeSet;

/**
 * The document once more, in the plainest form and with the library's own means, to be asked the
 * same as a Glosspair. It shares no code with it.
 */
final class Model {
    private static final BigInteger MILLION = BigInteger.valueOf(1000000);

    private final List<List<List<Integer>>> pairs = new ArrayList<>();
    private final List<List<Integer>> drafts = List.of(new ArrayList<>(), new ArrayList<>());
    private final int[] weights = {4, 3, 2, 1, 1};
    private int[][][] shares = new int[2][16][15];

    private static void bounds(boolean holds) {
        if (!holds) {
            throw new IndexOutOfBoundsException();
        }
    }

    private static void argument(boolean holds) {
        if (!holds) {
            throw new IllegalArgumentException();
        }
    }

    private static void state(boolean holds) {
        if (!holds) {
            throw new IllegalStateException();
        }
    }

    private List<List<Integer>> the(int pair) {
        bounds(pair >= 0 && pair < pairs.size() && pairs.get(pair) != null);
        return pairs.get(pair);
    }

    private List<List<List<Integer>>> standing() {
        List<List<List<Integer>>> all = new ArrayList<>(pairs);
        all.removeIf(p -> p == null);
        return all;
    }

    long put(int side, int word) {
        bounds(side == 0 || side == 1);
        bounds(word >= 0 && word <= 14);
        state(drafts.get(side).size() < 8);
        drafts.get(side).add(word);
        return drafts.get(side).size();
    }

    long wipe() {
        int had = drafts.get(0).size() + drafts.get(1).size();
        drafts.get(0).clear();
        drafts.get(1).clear();
        return had;
    }

    long pair() {
        state(!drafts.get(0).isEmpty() && !drafts.get(1).isEmpty() && pairs.size() < 20);
        pairs.add(List.of(List.copyOf(drafts.get(0)), List.copyOf(drafts.get(1))));
        wipe();
        return pairs.size() - 1;
    }

    long takeBack(int pair) {
        the(pair);
        pairs.set(pair, null);
        return standing().size();
    }

    private static List<Integer> withEmpty(List<Integer> sentence) {
        List<Integer> all = new ArrayList<>(sentence);
        all.add(0, 15);
        return all;
    }

    long begin() {
        shares = new int[2][16][15];
        int above = 0;
        for (int d = 0; d < 2; d++) {
            for (int word = 0; word < 16; word++) {
                Set<Integer> others = new TreeSet<>();
                for (List<List<Integer>> p : standing()) {
                    if (withEmpty(p.get(d)).contains(word)) {
                        others.addAll(p.get(1 - d));
                    }
                }
                int left = 1000000;
                for (int other : others) {
                    shares[d][word][other] = 1000000 / others.size();
                    left -= 1000000 / others.size();
                }
                for (int other : others) {
                    if (left > 0) {
                        shares[d][word][other]++;
                        left--;
                    }
                }
                above += others.size();
            }
        }
        return above;
    }

    long round() {
        int[][][] next = new int[2][16][15];
        int changed = 0;
        for (int d = 0; d < 2; d++) {
            BigInteger[][] counts = counts(d);
            for (int word = 0; word < 16; word++) {
                next[d][word] = apportioned(counts[word]);
                for (int other = 0; other < 15; other++) {
                    changed += next[d][word][other] != shares[d][word][other] ? 1 : 0;
                }
            }
        }
        shares = next;
        return changed;
    }

    private BigInteger[][] counts(int d) {
        BigInteger[][] counts = new BigInteger[16][15];
        for (BigInteger[] row : counts) {
            Arrays.fill(row, BigInteger.ZERO);
        }
        for (List<List<Integer>> p : standing()) {
            for (int other : p.get(1 - d)) {
                BigInteger sum = BigInteger.ZERO;
                for (int word : withEmpty(p.get(d))) {
                    sum = sum.add(BigInteger.valueOf(shares[d][word][other]));
                }
                for (int word : withEmpty(p.get(d))) {
                    if (sum.signum() > 0) {
                        BigInteger part = BigInteger.valueOf(shares[d][word][other]).multiply(MILLION).divide(sum);
                        counts[word][other] = counts[word][other].add(part);
                    }
                }
            }
        }
        return counts;
    }

    private static int[] apportioned(BigInteger[] counts) {
        int[] result = new int[15];
        BigInteger sum = BigInteger.ZERO;
        for (BigInteger count : counts) {
            sum = sum.add(count);
        }
        if (sum.signum() == 0) {
            return result;
        }
        List<Integer> order = new ArrayList<>();
        BigInteger[] rests = new BigInteger[15];
        int left = 1000000;
        for (int other = 0; other < 15; other++) {
            BigInteger[] parts = counts[other].multiply(MILLION).divideAndRemainder(sum);
            result[other] = parts[0].intValueExact();
            rests[other] = parts[1];
            left -= result[other];
            order.add(other);
        }
        order.sort((a, b) -> rests[b].equals(rests[a]) ? a - b : rests[b].compareTo(rests[a]));
        for (int given = 0; given < left; given++) {
            result[order.get(given)]++;
        }
        return result;
    }

    long weight(int apart, int weight) {
        bounds(apart >= 0 && apart <= 4);
        argument(weight >= 0 && weight <= 9);
        int before = weights[apart];
        weights[apart] = weight;
        return before;
    }

    long pairs() {
        return standing().size();
    }

    long word(int pair, int side, int place) {
        the(pair);
        bounds((side == 0 || side == 1) && place >= 0);
        List<Integer> sentence = the(pair).get(side);
        return place < sentence.size() ? sentence.get(place) : -1;
    }

    long share(int direction, int word, int other) {
        bounds(direction == 0 || direction == 1);
        bounds(word >= 0 && word <= 15 && other >= 0 && other <= 14);
        return shares[direction][word][other];
    }

    long link(int direction, int pair, int place) {
        bounds(direction == 0 || direction == 1);
        bounds(place >= 0 && place < the(pair).get(1 - direction).size());
        return linkOf(direction, the(pair), place);
    }

    private int linkOf(int direction, List<List<Integer>> pair, int place) {
        int other = pair.get(1 - direction).get(place);
        // The greatest worth comes last, and of alike ones the lowest place is put last.
        TreeMap<Long, Integer> byWorth = new TreeMap<>();
        for (int i = pair.get(direction).size() - 1; i >= 0; i--) {
            int apart = i > place ? i - place : place - i;
            int weight = apart == 0 ? weights[0] : apart == 1 ? weights[1] : apart == 2 ? weights[2] : weights[3];
            byWorth.put((long) shares[direction][pair.get(direction).get(i)][other] * weight, i);
        }
        long greatest = byWorth.lastKey();
        long ofEmpty = (long) shares[direction][15][other] * weights[4];
        return greatest == 0 || ofEmpty > greatest ? -1 : byWorth.get(greatest);
    }

    private boolean[][] joined(List<List<Integer>> pair) {
        int rows = pair.get(0).size();
        int columns = pair.get(1).size();
        boolean[][] joined = new boolean[rows][columns];
        boolean[][] told = new boolean[rows][columns];
        for (int i = 0; i < rows; i++) {
            for (int j = 0; j < columns; j++) {
                boolean by0 = linkOf(0, pair, j) == i;
                boolean by1 = linkOf(1, pair, i) == j;
                joined[i][j] = by0 && by1;
                told[i][j] = by0 || by1;
            }
        }
        boolean again = true;
        while (again) {
            again = false;
            for (int i = 0; i < rows; i++) {
                for (int j = 0; j < columns; j++) {
                    if (told[i][j] && !joined[i][j] && beside(joined, i, j) && free(joined, i, j)) {
                        joined[i][j] = true;
                        again = true;
                    }
                }
            }
        }
        return joined;
    }

    private static boolean beside(boolean[][] joined, int i, int j) {
        int[][] steps = {{0, 1}, {0, -1}, {1, 0}, {-1, 0}, {1, 1}, {1, -1}, {-1, 1}, {-1, -1}};
        for (int[] step : steps) {
            int a = i + step[0];
            int b = j + step[1];
            if (a >= 0 && a < joined.length && b >= 0 && b < joined[0].length && joined[a][b]) {
                return true;
            }
        }
        return false;
    }

    private static boolean free(boolean[][] joined, int i, int j) {
        boolean rowTaken = false;
        for (boolean one : joined[i]) {
            rowTaken |= one;
        }
        boolean columnTaken = false;
        for (boolean[] row : joined) {
            columnTaken |= row[j];
        }
        return !rowTaken || !columnTaken;
    }

    boolean isJoined(int pair, int place, int other) {
        bounds(place >= 0 && place < the(pair).get(0).size());
        bounds(other >= 0 && other < the(pair).get(1).size());
        return joined(the(pair))[place][other];
    }

    private List<int[]> allPhrases(int pair) {
        boolean[][] joined = joined(the(pair));
        List<int[]> all = new ArrayList<>();
        for (int a = 0; a < joined.length; a++) {
            for (int b = a; b < joined.length && b - a < 4; b++) {
                for (int c = 0; c < joined[0].length; c++) {
                    for (int d = c; d < joined[0].length && d - c < 4; d++) {
                        if (isPhrase(joined, new int[] {a, b, c, d})) {
                            all.add(new int[] {a, b, c, d});
                        }
                    }
                }
            }
        }
        return all;
    }

    private static boolean isPhrase(boolean[][] joined, int[] ends) {
        boolean any = false;
        for (int i = 0; i < joined.length; i++) {
            for (int j = 0; j < joined[0].length; j++) {
                boolean in = i >= ends[0] && i <= ends[1];
                boolean across = j >= ends[2] && j <= ends[3];
                if (joined[i][j] && in != across) {
                    return false;
                }
                any |= joined[i][j] && in;
            }
        }
        return any;
    }

    long phrases(int pair) {
        return allPhrases(pair).size();
    }

    long phrase(int pair, int phrase, int what) {
        List<int[]> all = allPhrases(pair);
        bounds(phrase >= 0 && phrase < all.size());
        argument(what >= 0 && what <= 3);
        return all.get(phrase)[what];
    }

    long fertility(int word, int fertility) {
        bounds(word >= 0 && word <= 14);
        argument(fertility >= 0 && fertility <= 8);
        int many = 0;
        for (List<List<Integer>> pair : standing()) {
            boolean[][] joined = joined(pair);
            for (int i = 0; i < joined.length; i++) {
                int links = 0;
                for (boolean one : joined[i]) {
                    links += one ? 1 : 0;
                }
                many += pair.get(0).get(i) == word && links == fertility ? 1 : 0;
            }
        }
        return many;
    }

    long total(int pair) {
        List<Integer> second = the(pair).get(1);
        state(second.size() <= 4);
        long product = 1;
        for (int other : second) {
            long sum = 0;
            for (int word : withEmpty(the(pair).get(0))) {
                sum += shares[0][word][other] / 1000;
            }
            product *= sum;
        }
        return product;
    }

    /** Counts the ways up as a number with a digit for each place of the side 1. */
    long totalAnew(int pair) {
        List<Integer> second = the(pair).get(1);
        state(second.size() <= 4);
        List<Integer> words = withEmpty(the(pair).get(0));
        int ways = 1;
        for (int j = 0; j < second.size(); j++) {
            ways *= words.size();
        }
        long sum = 0;
        for (int way = 0; way < ways; way++) {
            long product = 1;
            int rest = way;
            for (int other : second) {
                product *= shares[0][words.get(rest % words.size())][other] / 1000;
                rest /= words.size();
            }
            sum += product;
        }
        return sum;
    }
}
