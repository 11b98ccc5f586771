/** Promises 1 to 5, 9 and 10: a new object, put, wipe, pair, takeBack, pairs, word. */
final class PairsTest {
    private static final int[] NO_PAIRS = {-1, 2, 19, 20, 21, Integer.MIN_VALUE, Integer.MAX_VALUE};

    public static void main(String[] args) {
        aNewObjectIsEmpty();
        putTellsHowManyThereAre();
        putRefusesWhatIsNotThere();
        putRefusesTheNinth();
        wipeEmptiesBothDrafts();
        pairTakesBothDrafts();
        pairRefusesEmptyDrafts();
        pairRefusesTheTwentyFirst();
        takeBackTakesOne();
        wordTellsWords();
        Check.end();
    }

    private static void aNewObjectIsEmpty() {
        Glosspair aligner = new Glosspair();
        Check.equal("pairs() of a new one", aligner.pairs(), 0);
        Check.equal("wipe() of a new one", aligner.wipe(), 0);
        Check.illegalState("pair() of a new one", () -> aligner.pair());
        Check.outOfBounds("word(0, 0, 0) of a new one", () -> aligner.word(0, 0, 0));
        Check.equal("begin() of a new one", aligner.begin(), 0);
        Check.equal("round() of a new one", aligner.round(), 0);
        int[] weights = {4, 3, 2, 1, 1};
        for (int apart = 0; apart < weights.length; apart++) {
            Check.equal("weight of a new one " + apart, aligner.weight(apart, 0), weights[apart]);
        }
        Glosspair another = new Glosspair();
        another.put(0, 1);
        Check.equal("a draft of another one", aligner.wipe(), 0);
        Check.equal("a weight of another one", another.weight(0, 0), 4);
    }

    private static void putTellsHowManyThereAre() {
        Glosspair aligner = new Glosspair();
        for (int place = 0; place < 8; place++) {
            Check.equal("put side 0, place " + place, aligner.put(0, place * 2), place + 1);
        }
        for (int place = 0; place < 8; place++) {
            Check.equal("put side 1, place " + place, aligner.put(1, 0), place + 1);
        }
        Check.equal("pair()", aligner.pair(), 0);
        for (int place = 0; place < 8; place++) {
            Check.equal("word at " + place, aligner.word(0, 0, place), place * 2);
        }
        Check.equal("put into the next draft", aligner.put(0, 14), 1);
    }

    private static void putRefusesWhatIsNotThere() {
        Glosspair aligner = new Glosspair();
        int[] noSides = {-1, 2, Integer.MIN_VALUE, Integer.MAX_VALUE};
        for (int side : noSides) {
            Check.outOfBounds("put side " + side, () -> aligner.put(side, 0));
        }
        int[] noWords = {-1, 15, 16, Integer.MIN_VALUE, Integer.MAX_VALUE};
        for (int word : noWords) {
            Check.outOfBounds("put word " + word, () -> aligner.put(0, word));
            Check.outOfBounds("put word " + word, () -> aligner.put(1, word));
        }
        Check.equal("wipe() after refused ones", aligner.wipe(), 0);
        Check.equal("put(1, 14)", aligner.put(1, 14), 1);
    }

    private static void putRefusesTheNinth() {
        Glosspair aligner = new Glosspair();
        for (int place = 0; place < 8; place++) {
            aligner.put(1, 5);
        }
        Check.illegalState("the ninth", () -> aligner.put(1, 5));
        Check.outOfBounds("the ninth, no such word", () -> aligner.put(1, 15));
        Check.outOfBounds("the ninth, no such side", () -> aligner.put(2, 5));
        Check.equal("the other side's first", aligner.put(0, 5), 1);
        Check.equal("wipe()", aligner.wipe(), 9);
        Check.equal("put after wipe()", aligner.put(1, 5), 1);
    }

    private static void wipeEmptiesBothDrafts() {
        Glosspair aligner = new Glosspair();
        aligner.put(0, 1);
        aligner.put(0, 2);
        aligner.put(1, 3);
        Check.equal("wipe()", aligner.wipe(), 3);
        Check.equal("wipe() again", aligner.wipe(), 0);
        Check.illegalState("pair() after wipe()", () -> aligner.pair());
        Made.pairOf(aligner, Made.words(4, 5), Made.words(6));
        aligner.put(1, 9);
        Check.equal("wipe() with a pair", aligner.wipe(), 1);
        Check.equal("pairs() after wipe()", aligner.pairs(), 1);
        Check.equal("word after wipe()", aligner.word(0, 0, 1), 5);
    }

    private static void pairTakesBothDrafts() {
        Glosspair aligner = new Glosspair();
        Check.equal("the first", Made.pairOf(aligner, Made.words(1, 2), Made.words(3)), 0);
        Check.equal("pairs()", aligner.pairs(), 1);
        Check.equal("wipe() after pair()", aligner.wipe(), 0);
        Check.equal("the second", Made.pairOf(aligner, Made.words(7), Made.words(8, 9)), 1);
        Check.equal("pairs()", aligner.pairs(), 2);
        Check.equal("the first's word", aligner.word(0, 0, 0), 1);
        Check.equal("the second's word", aligner.word(1, 1, 1), 9);
    }

    private static void pairRefusesEmptyDrafts() {
        Glosspair aligner = new Glosspair();
        aligner.put(0, 1);
        Check.illegalState("pair() without side 1", () -> aligner.pair());
        Check.equal("the draft is kept", aligner.wipe(), 1);
        aligner.put(1, 1);
        Check.illegalState("pair() without side 0", () -> aligner.pair());
        Check.equal("the draft is kept", aligner.wipe(), 1);
        Check.equal("pairs()", aligner.pairs(), 0);
    }

    private static void pairRefusesTheTwentyFirst() {
        Glosspair aligner = new Glosspair();
        for (int number = 0; number < 20; number++) {
            int[] sentence = Made.words(number % 15);
            Check.equal("pair " + number, Made.pairOf(aligner, sentence, sentence), number);
        }
        aligner.put(0, 1);
        aligner.put(1, 1);
        aligner.put(1, 2);
        Check.illegalState("the twenty-first", () -> aligner.pair());
        Check.equal("takeBack(19)", aligner.takeBack(19), 19);
        Check.illegalState("the twenty-first, with one taken back", () -> aligner.pair());
        Check.equal("the drafts are kept", aligner.wipe(), 3);
        Check.illegalState("the twenty-first, empty", () -> aligner.pair());
        Check.equal("pairs()", aligner.pairs(), 19);
        Check.equal("the nineteenth's word", aligner.word(18, 0, 0), 3);
        Check.outOfBounds("the twentieth's word", () -> aligner.word(19, 0, 0));
    }

    private static void takeBackTakesOne() {
        Glosspair aligner = new Glosspair();
        Check.outOfBounds("takeBack(0) of none", () -> aligner.takeBack(0));
        Made.pairOf(aligner, Made.words(1), Made.words(2));
        Made.pairOf(aligner, Made.words(3), Made.words(4));
        for (int number : NO_PAIRS) {
            Check.outOfBounds("takeBack " + number, () -> aligner.takeBack(number));
        }
        Check.equal("pairs()", aligner.pairs(), 2);
        Check.equal("takeBack(0)", aligner.takeBack(0), 1);
        Check.outOfBounds("takeBack(0) again", () -> aligner.takeBack(0));
        Check.equal("pairs()", aligner.pairs(), 1);
        Check.equal("the other one stands", aligner.word(1, 0, 0), 3);
        Check.equal("the next number", Made.pairOf(aligner, Made.words(5), Made.words(6)), 2);
        Check.equal("takeBack(1)", aligner.takeBack(1), 1);
        Check.equal("takeBack(2)", aligner.takeBack(2), 0);
        Check.equal("pairs()", aligner.pairs(), 0);
    }

    private static void wordTellsWords() {
        Glosspair aligner = new Glosspair();
        Made.pairOf(aligner, Made.words(14, 0, 14), Made.words(6, 5));
        Made.pairOf(aligner, Made.words(1), Made.words(2));
        Check.equal("word(0, 0, 0)", aligner.word(0, 0, 0), 14);
        Check.equal("word(0, 0, 1)", aligner.word(0, 0, 1), 0);
        Check.equal("word(0, 0, 2)", aligner.word(0, 0, 2), 14);
        Check.equal("word(0, 0, 3)", aligner.word(0, 0, 3), Glosspair.NONE);
        Check.equal("word(0, 1, 1)", aligner.word(0, 1, 1), 5);
        Check.equal("word(0, 1, 2)", aligner.word(0, 1, 2), Glosspair.NONE);
        int[] farPlaces = {7, 8, 9, Integer.MAX_VALUE};
        for (int place : farPlaces) {
            Check.equal("word at " + place, aligner.word(0, 0, place), Glosspair.NONE);
        }
        Check.outOfBounds("place -1", () -> aligner.word(0, 0, -1));
        Check.outOfBounds("the lowest place", () -> aligner.word(0, 0, Integer.MIN_VALUE));
        Check.outOfBounds("side 2", () -> aligner.word(0, 2, 0));
        Check.outOfBounds("side -1", () -> aligner.word(0, -1, 0));
        for (int number : NO_PAIRS) {
            Check.outOfBounds("word of pair " + number, () -> aligner.word(number, 0, 0));
        }
        aligner.takeBack(0);
        Check.outOfBounds("word of one taken back", () -> aligner.word(0, 0, 0));
        Check.equal("word of another one", aligner.word(1, 1, 0), 2);
    }
}
