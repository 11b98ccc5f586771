/**
 * All promises: long runs of calls, right ones and wrong ones, each asked of a Glosspair and of the
 * Model. The runs come from a counting formula, so that they are the same each time.
 */
final class ModelTest {
    private static final int RUNS = 600;
    private static final int CALLS = 512;

    private long seed;

    public static void main(String[] args) {
        for (int run = 0; run < RUNS; run++) {
            new ModelTest(run).run(run);
        }
        Check.end();
    }

    private ModelTest(int run) {
        seed = run * 7919L + 17;
    }

    private int below(int bound) {
        seed = seed * 6364136223846793005L + 1442695040888963407L;
        return (int) ((seed >>> 33) % bound);
    }

    /** Mostly from 0 up to just below the bound, now and then just out of it, or far. */
    private int around(int bound) {
        int kind = below(40);
        if (kind == 0) {
            return -1;
        }
        if (kind == 1) {
            return bound;
        }
        if (kind == 2) {
            int[] far = {Integer.MIN_VALUE, Integer.MAX_VALUE, bound + 1, -2};
            return far[below(far.length)];
        }
        return below(bound);
    }

    private void run(int run) {
        Glosspair aligner = new Glosspair();
        Model model = new Model();
        int words = 2 + below(14);
        int longest = 1 + below(8);
        int asked = 0;
        while (asked < CALLS) {
            if (below(12) == 0 && asked + 20 < CALLS) {
                asked += pairOfBoth(run, aligner, model, words, longest);
            } else {
                oneCall(run, aligner, model, words);
                asked++;
            }
        }
    }

    private int pairOfBoth(int run, Glosspair aligner, Model model, int words, int longest) {
        int calls = 1;
        for (int side = 0; side < 2; side++) {
            int length = 1 + below(longest);
            for (int place = 0; place < length; place++) {
                ask(run, aligner, model, 0, side, below(words), 0);
                calls++;
            }
        }
        ask(run, aligner, model, 2, 0, 0, 0);
        return calls;
    }

    private void oneCall(int run, Glosspair aligner, Model model, int words) {
        int[] kinds = {0, 1, 2, 3, 4, 5, 5, 6, 7, 8, 9, 9, 10, 10, 10, 11, 11, 11, 11, 12, 13, 13, 13, 14, 14, 15, 16};
        int kind = kinds[below(kinds.length)];
        if ((kind == 1 || kind == 3 || kind == 4) && below(4) != 0) {
            kind = 5;
        }
        int pair = below(6) == 0 ? around(20) : around(Math.max(1, (int) model.pairs()));
        switch (kind) {
            case 0 -> ask(run, aligner, model, kind, around(2), below(8) == 0 ? around(15) : below(words), 0);
            case 3, 12, 15, 16 -> ask(run, aligner, model, kind, pair, 0, 0);
            case 6 -> ask(run, aligner, model, kind, around(5), around(10), 0);
            case 8 -> ask(run, aligner, model, kind, pair, around(2), around(9));
            case 9 -> ask(run, aligner, model, kind, around(2), below(4) == 0 ? 15 : around(16), around(15));
            case 10 -> ask(run, aligner, model, kind, around(2), pair, around(8));
            case 11 -> ask(run, aligner, model, kind, pair, around(8), around(8));
            case 13 -> ask(run, aligner, model, kind, pair, below(3) == 0 ? around(26) : around(6), around(4));
            case 14 -> ask(run, aligner, model, kind, around(15), below(2) == 0 ? around(9) : below(3), 0);
            default -> ask(run, aligner, model, kind, 0, 0, 0);
        }
    }

    private void ask(int run, Glosspair x, Model m, int kind, int a, int b, int c) {
        switch (kind) {
            case 0 -> same(run, "put " + a + " " + b, () -> x.put(a, b), () -> m.put(a, b));
            case 1 -> same(run, "wipe", () -> x.wipe(), () -> m.wipe());
            case 2 -> same(run, "pair", () -> x.pair(), () -> m.pair());
            case 3 -> same(run, "takeBack " + a, () -> x.takeBack(a), () -> m.takeBack(a));
            case 4 -> same(run, "begin", () -> x.begin(), () -> m.begin());
            case 5 -> same(run, "round", () -> x.round(), () -> m.round());
            case 6 -> same(run, "weight " + a + " " + b, () -> x.weight(a, b), () -> m.weight(a, b));
            case 7 -> same(run, "pairs", () -> x.pairs(), () -> m.pairs());
            case 8 -> same(run, "word", () -> x.word(a, b, c), () -> m.word(a, b, c));
            case 9 -> same(run, "share", () -> x.share(a, b, c), () -> m.share(a, b, c));
            case 10 -> same(run, "link", () -> x.link(a, b, c), () -> m.link(a, b, c));
            case 11 -> same(run, "isJoined", () -> x.isJoined(a, b, c) ? 1 : 0, () -> m.isJoined(a, b, c) ? 1 : 0);
            case 12 -> same(run, "phrases " + a, () -> x.phrases(a), () -> m.phrases(a));
            case 13 -> same(run, "phrase", () -> x.phrase(a, b, c), () -> m.phrase(a, b, c));
            case 14 -> same(run, "fertility", () -> x.fertility(a, b), () -> m.fertility(a, b));
            case 15 -> same(run, "total " + a, () -> x.total(a), () -> m.total(a));
            default -> same(run, "totalAnew " + a, () -> x.totalAnew(a), () -> m.totalAnew(a));
        }
    }

    private static void same(int run, String what, Check.Call call, Check.Call dueCall) {
        String named = "run " + run + ": " + what;
        try {
            long due = dueCall.answer();
            Check.equal(named, call.answer(), due);
        } catch (RuntimeException e) {
            Check.throwing(named, e.getClass(), call);
        }
    }
}
