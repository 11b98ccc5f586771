import java.util.ArrayList;
import java.util.Arrays;
import java.util.List;

/**
 * All promises: "A call that throws an exception changes nothing; if several exceptions apply, the
 * one that its throws clause names first is thrown." Each refused call is made in each of some
 * states, is looked at for its exception, and then the aligner must answer and go on like an alike
 * one that was not called.
 */
final class RefusedTest {
    private interface Call {
        long answer(Glosspair aligner);
    }

    private static final Class<IndexOutOfBoundsException> BOUNDS = IndexOutOfBoundsException.class;
    private static final Class<IllegalArgumentException> ARGUMENT = IllegalArgumentException.class;
    private static final Class<IllegalStateException> STATE = IllegalStateException.class;

    /** A call that is refused, of a promise, and the exception that is due. */
    private record Refused(int promise, String name, Class<? extends RuntimeException> due, Call call) {
    }

    /** How an aligner is made that is in a state. */
    private enum State {
        NEW, BUSY, TURNED, FULL, GONE;

        Glosspair make() {
            return switch (this) {
                case NEW -> new Glosspair();
                case BUSY -> busy(0);
                case TURNED -> busy(1);
                case FULL -> full(2);
                case GONE -> full(20);
            };
        }

        int[] pairsThatAreNotThere() {
            return switch (this) {
                case NEW -> new int[] {-1, 0, 1, 19, 20, Integer.MIN_VALUE, Integer.MAX_VALUE};
                case BUSY, TURNED -> new int[] {-1, 1, 4, 19, 20, Integer.MIN_VALUE, Integer.MAX_VALUE};
                case FULL -> new int[] {-1, 0, 19, 20, 21, Integer.MIN_VALUE, Integer.MAX_VALUE};
                case GONE -> new int[] {-1, 0, 1, 18, 19, 20, Integer.MIN_VALUE, Integer.MAX_VALUE};
            };
        }
    }

    private final State state;
    private final List<Refused> calls = new ArrayList<>();

    public static void main(String[] args) {
        for (State state : State.values()) {
            new RefusedTest(state).run();
        }
        askingChangesNothing();
        Check.end();
    }

    private RefusedTest(State state) {
        this.state = state;
    }

    /** Four pairs, of which 1 is taken back and 2 has a long sentence; one draft is full, one empty. */
    private static Glosspair busy(int fullSide) {
        Glosspair aligner = new Glosspair();
        Made.pairOf(aligner, Made.words(0, 1), Made.words(3, 4, 5));
        Made.pairOf(aligner, Made.words(2), Made.words(3, 4, 5, 6, 7, 8));
        Made.pairOf(aligner, Made.words(0, 2, 14), Made.words(4, 3, 0, 14, 3));
        Made.pairOf(aligner, Made.words(1), Made.words(4));
        aligner.begin();
        aligner.round();
        aligner.takeBack(1);
        aligner.round();
        Made.weigh(aligner, 5, 3, 2, 2, 0);
        Made.fill(aligner, fullSide, 7, 6, 5, 4, 3, 2, 1, 0);
        return aligner;
    }

    /** Twenty pairs, of which so many are taken back from both ends on; both drafts are full. */
    private static Glosspair full(int takenBack) {
        Glosspair aligner = Made.twenty();
        aligner.begin();
        for (int taken = 0; taken < takenBack; taken++) {
            aligner.takeBack(taken % 2 == 0 ? taken / 2 : 19 - taken / 2);
        }
        aligner.round();
        Made.fill(aligner, 0, 7, 6, 5, 4, 3, 2, 1, 0);
        Made.fill(aligner, 1, 8, 9, 10, 11, 12, 13, 14, 0);
        return aligner;
    }

    private void run() {
        addDrafting();
        addWeights();
        addShares();
        addFertilities();
        for (int pair : state.pairsThatAreNotThere()) {
            addPairThatIsNotThere(pair);
        }
        if (state == State.BUSY || state == State.TURNED) {
            addPairsThatAreThere();
        }
        List<String> due = Transcript.of(state::make);
        for (Refused one : calls) {
            Check.about(one.promise, "in the state " + state + ", the exception and that nothing changes");
            Check.throwing(one.name, one.due, () -> one.call.answer(state.make()));
            same(one.name, due, Transcript.of(() -> after(one.call)));
        }
    }

    private Glosspair after(Call call) {
        Glosspair aligner = state.make();
        try {
            call.answer(aligner);
        } catch (RuntimeException e) {
            // Which one it is has been looked at.
        }
        return aligner;
    }

    private static void same(String name, List<String> due, List<String> got) {
        for (int line = 0; line < due.size(); line++) {
            if (!due.get(line).equals(got.get(line))) {
                Check.isTrue(name + ": then " + got.get(line) + ", due: " + due.get(line), false);
                return;
            }
        }
        Check.equal(name + ": answers then", got.size(), due.size());
    }

    private void add(int promise, Class<? extends RuntimeException> due, String name, Call call) {
        calls.add(new Refused(promise, name, due, call));
    }

    private void addDrafting() {
        int[][] noSuch = {{-1, 0}, {2, 0}, {0, -1}, {1, -1}, {0, 15}, {1, 15}, {0, 16}, {2, 15}, {-1, -1},
            {Integer.MAX_VALUE, 0}, {0, Integer.MIN_VALUE}};
        for (int[] one : noSuch) {
            add(2, BOUNDS, "put" + Arrays.toString(one), x -> x.put(one[0], one[1]));
        }
        if (state != State.NEW && state != State.TURNED) {
            add(2, STATE, "put(0, 14)", x -> x.put(0, 14));
        }
        if (state != State.NEW && state != State.BUSY) {
            add(2, STATE, "put(1, 0)", x -> x.put(1, 0));
        }
        add(4, STATE, "pair()", x -> x.pair());
    }

    private void addWeights() {
        int[][] noAparts = {{-1, 0}, {5, 9}, {-1, -1}, {5, 10}, {Integer.MAX_VALUE, 10}, {Integer.MIN_VALUE, 0}};
        for (int[] one : noAparts) {
            add(8, BOUNDS, "weight" + Arrays.toString(one), x -> x.weight(one[0], one[1]));
        }
        int[][] noWeights = {{0, -1}, {0, 10}, {3, -1}, {4, 10}, {4, Integer.MAX_VALUE}, {2, Integer.MIN_VALUE}};
        for (int[] one : noWeights) {
            add(8, ARGUMENT, "weight" + Arrays.toString(one), x -> x.weight(one[0], one[1]));
        }
    }

    private void addShares() {
        int[][] noSuch = {{-1, 0, 0}, {2, 0, 0}, {0, -1, 0}, {1, 16, 0}, {0, 0, -1}, {1, 0, 15}, {0, 15, 15},
            {2, 16, 15}, {-1, -1, -1}, {0, Integer.MAX_VALUE, 0}, {1, 0, Integer.MIN_VALUE}};
        for (int[] one : noSuch) {
            add(11, BOUNDS, "share" + Arrays.toString(one), x -> x.share(one[0], one[1], one[2]));
        }
    }

    private void addFertilities() {
        int[][] noWords = {{-1, 0}, {15, 8}, {16, 0}, {-1, -1}, {15, 9}, {Integer.MIN_VALUE, 9}};
        for (int[] one : noWords) {
            add(16, BOUNDS, "fertility" + Arrays.toString(one), x -> x.fertility(one[0], one[1]));
        }
        int[][] noFertilities = {{0, -1}, {14, 9}, {0, Integer.MAX_VALUE}, {14, Integer.MIN_VALUE}};
        for (int[] one : noFertilities) {
            add(16, ARGUMENT, "fertility" + Arrays.toString(one), x -> x.fertility(one[0], one[1]));
        }
    }

    /** With all else right, and with all else wrong. */
    private void addPairThatIsNotThere(int pair) {
        add(5, BOUNDS, "takeBack of " + pair, x -> x.takeBack(pair));
        add(10, BOUNDS, "word of " + pair, x -> x.word(pair, 0, 0));
        add(10, BOUNDS, "word of " + pair + ", no such side and place", x -> x.word(pair, 2, -1));
        add(12, BOUNDS, "link(0) of " + pair, x -> x.link(0, pair, 0));
        add(12, BOUNDS, "link(1) of " + pair, x -> x.link(1, pair, 0));
        add(12, BOUNDS, "link of " + pair + ", no such direction and place", x -> x.link(2, pair, -1));
        add(13, BOUNDS, "isJoined of " + pair, x -> x.isJoined(pair, 0, 0) ? 1 : 0);
        add(13, BOUNDS, "isJoined of " + pair + ", no such places", x -> x.isJoined(pair, -1, 8) ? 1 : 0);
        add(14, BOUNDS, "phrases of " + pair, x -> x.phrases(pair));
        add(15, BOUNDS, "phrase of " + pair, x -> x.phrase(pair, 0, 0));
        add(15, BOUNDS, "phrase of " + pair + ", what is out of range", x -> x.phrase(pair, 0, 4));
        add(15, BOUNDS, "phrase of " + pair + ", no such phrase and what", x -> x.phrase(pair, -1, -1));
        add(17, BOUNDS, "total of " + pair, x -> x.total(pair));
        add(18, BOUNDS, "totalAnew of " + pair, x -> x.totalAnew(pair));
    }

    /** Pair 0 has 2 and 3 places, pair 2 has 3 and 5. */
    private void addPairsThatAreThere() {
        int[][] noWords = {{0, -1, 0}, {0, 2, 0}, {0, 0, -1}, {2, 1, -1}, {2, 2, -1}, {3, 0, Integer.MIN_VALUE}};
        for (int[] one : noWords) {
            add(10, BOUNDS, "word" + Arrays.toString(one), x -> x.word(one[0], one[1], one[2]));
        }
        int[][] noLinks = {{-1, 0, 0}, {2, 0, 0}, {0, 0, -1}, {1, 0, -1}, {0, 0, 3}, {1, 0, 2}, {0, 2, 5}, {1, 2, 3},
            {0, 2, 8}, {2, 0, 3}, {1, 2, Integer.MAX_VALUE}};
        for (int[] one : noLinks) {
            add(12, BOUNDS, "link" + Arrays.toString(one), x -> x.link(one[0], one[1], one[2]));
        }
        int[][] noPlaces = {{0, -1, 0}, {0, 0, -1}, {0, 2, 0}, {0, 0, 3}, {0, 2, 3}, {2, 3, 4}, {2, 2, 5}, {2, 8, 8},
            {3, Integer.MAX_VALUE, 0}, {3, 0, Integer.MIN_VALUE}};
        for (int[] one : noPlaces) {
            add(13, BOUNDS, "isJoined" + Arrays.toString(one), x -> x.isJoined(one[0], one[1], one[2]) ? 1 : 0);
        }
        addPhrasesAndTotals();
    }

    private void addPhrasesAndTotals() {
        int many = state.make().phrases(0);
        int[][] noPhrases = {{0, -1, 0}, {0, many, 0}, {0, many, 4}, {0, -1, -1}, {2, Integer.MAX_VALUE, 0}};
        for (int[] one : noPhrases) {
            add(15, BOUNDS, "phrase" + Arrays.toString(one), x -> x.phrase(one[0], one[1], one[2]));
        }
        int[][] noWhats = {{0, 0, -1}, {0, 0, 4}, {0, many - 1, 4}, {0, 0, Integer.MAX_VALUE}};
        for (int[] one : noWhats) {
            add(15, ARGUMENT, "phrase" + Arrays.toString(one), x -> x.phrase(one[0], one[1], one[2]));
        }
        add(17, STATE, "total of 5 words", x -> x.total(2));
        add(18, STATE, "totalAnew of 5 words", x -> x.totalAnew(2));
    }

    private static void askingChangesNothing() {
        unchangedBy(9, x -> x.pairs());
        unchangedBy(10, x -> x.word(0, 1, 2));
        unchangedBy(11, x -> x.share(0, 0, 3));
        unchangedBy(12, x -> x.link(0, 0, 2));
        unchangedBy(12, x -> x.link(1, 2, 2));
        unchangedBy(13, x -> x.isJoined(2, 0, 0) ? 1 : 0);
        unchangedBy(14, x -> x.phrases(2));
        unchangedBy(15, x -> x.phrase(0, 0, 3));
        unchangedBy(16, x -> x.fertility(0, 1));
        unchangedBy(17, x -> x.total(0));
        unchangedBy(18, x -> x.totalAnew(0));
    }

    private static void unchangedBy(int promise, Call asking) {
        Check.about(promise, "shares, links, phrases and likelihoods are asked, which changes nothing");
        same("asked", Transcript.of(State.BUSY::make), Transcript.of(() -> {
            Glosspair aligner = State.BUSY.make();
            asking.answer(aligner);
            return aligner;
        }));
    }
}
