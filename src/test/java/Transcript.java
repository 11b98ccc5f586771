import java.util.ArrayList;
import java.util.List;
import java.util.function.Consumer;
import java.util.function.Supplier;

/**
 * All that an aligner answers, and how it goes on. As an object stands for 512 calls, and some of
 * them change it, alike objects are asked in turn; each may have had 200 calls ahead.
 */
final class Transcript {
    private interface Question {
        long answer(Glosspair aligner);
    }

    private static final int AT_ONCE = 300;

    private final List<String> names = new ArrayList<>();
    private final List<Question> questions = new ArrayList<>();
    private final List<String> lines = new ArrayList<>();

    private Transcript() {
    }

    static List<String> of(Supplier<Glosspair> maker) {
        Transcript transcript = new Transcript();
        transcript.addAsking();
        transcript.ask(maker);
        for (Consumer<Transcript> way : transcript.waysOn()) {
            way.accept(transcript);
            transcript.ask(maker);
        }
        return transcript.lines;
    }

    private void add(String name, Question question) {
        names.add(name);
        questions.add(question);
    }

    private void ask(Supplier<Glosspair> maker) {
        Glosspair aligner = null;
        for (int at = 0; at < questions.size(); at++) {
            aligner = at % AT_ONCE == 0 ? maker.get() : aligner;
            lines.add(names.get(at) + " is " + answer(questions.get(at), aligner));
        }
        names.clear();
        questions.clear();
    }

    private static String answer(Question question, Glosspair aligner) {
        try {
            return "" + question.answer(aligner);
        } catch (RuntimeException e) {
            return e.getClass().getName();
        }
    }

    private void addAsking() {
        add("pairs", x -> x.pairs());
        for (int cell = 0; cell < 480; cell++) {
            int c = cell;
            add("share " + c, x -> x.share(c / 240, c / 15 % 16, c % 15));
        }
        for (int cell = 0; cell < 135; cell++) {
            int c = cell;
            add("fertility " + c, x -> x.fertility(c / 9, c % 9));
        }
        for (int number = 0; number < 20; number++) {
            addPair(number);
        }
    }

    private void addPair(int pair) {
        for (int cell = 0; cell < 16; cell++) {
            int c = cell;
            add("word " + pair + " " + c, x -> x.word(pair, c / 8, c % 8));
            add("link " + pair + " " + c, x -> x.link(c / 8, pair, c % 8));
        }
        for (int cell = 0; cell < 64; cell++) {
            int c = cell;
            add("isJoined " + pair + " " + c, x -> x.isJoined(pair, c / 8, c % 8) ? 1 : 0);
        }
        for (int cell = 0; cell < 24; cell++) {
            int c = cell;
            add("phrase " + pair + " " + c, x -> x.phrase(pair, c / 4, c % 4));
        }
        add("phrases " + pair, x -> x.phrases(pair));
        add("total " + pair, x -> x.total(pair));
        add("totalAnew " + pair, x -> x.totalAnew(pair));
    }

    /** What can be told only by changing it. */
    private List<Consumer<Transcript>> waysOn() {
        return List.of(Transcript::addWipe, Transcript::addDrafts, Transcript::addPairOfBoth,
                Transcript::addWeights, Transcript::addRounds, Transcript::addBegin, Transcript::addTakingBack);
    }

    private void addWipe() {
        add("wipe", x -> x.wipe());
    }

    private void addDrafts() {
        for (int time = 0; time < 9; time++) {
            add("put(0) " + time, x -> x.put(0, 3));
            add("put(1) " + time, x -> x.put(1, 4));
        }
        addPairOfBoth();
    }

    private void addPairOfBoth() {
        add("pair", x -> x.pair());
        for (int cell = 0; cell < 336; cell++) {
            int c = cell;
            add("word " + c, x -> x.word(20 - c / 16, c / 8 % 2, c % 8));
            if (questions.size() == AT_ONCE) {
                return;
            }
        }
    }

    private void addWeights() {
        for (int apart = 0; apart < 5; apart++) {
            int asked = apart;
            add("weight " + apart, x -> x.weight(asked, 0));
        }
    }

    private void addRounds() {
        add("round", x -> x.round());
        add("round", x -> x.round());
        addShares(0);
    }

    private void addBegin() {
        add("begin", x -> x.begin());
        addShares(1);
    }

    private void addShares(int direction) {
        for (int cell = 0; cell < 240; cell++) {
            int c = cell;
            add("then share " + c, x -> x.share(direction, c / 15, c % 15));
        }
    }

    private void addTakingBack() {
        for (int number = 0; number < 20; number++) {
            int pair = number;
            add("takeBack " + pair, x -> x.takeBack(pair));
        }
    }
}
