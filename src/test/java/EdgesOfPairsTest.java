/** The edges of promises 1 to 5, 9 and 10: a new object, put, wipe, pair, takeBack, pairs, word. */
final class EdgesOfPairsTest {
    private static final int[] EIGHT = {0, 14, 1, 13, 2, 12, 3, 11};

    public static void main(String[] args) {
        promise1ThereAreNoPairs();
        promise1BothDraftsAreEmpty();
        promise1AllSharesAreZero();
        promise2TheSides();
        promise2TheWords();
        promise2TheEighthAndTheNinth();
        promise2TheOutOfBoundsComesFirst();
        promise2EightAgainWhenEmptied();
        promise3WipesNothingAndAll();
        promise3LeavesPairsAlone();
        promise4TheShortestAndTheLongest();
        promise4OneDraftIsEmpty();
        promise4TheTwentiethAndTheTwentyFirst();
        promise4TwentyEverThoughAllAreTakenBack();
        promise4TheDraftsAreEmptyThen();
        promise5TheNumbers();
        promise5TheLastOneThatCanBeMade();
        promise5NotThereAnyMore();
        promise9NoneAndTwenty();
        promise10ThePlaces();
        promise10TheSides();
        promise10ThePairs();
        promise10TheWordsThemselves();
        Check.end();
    }

    private static void promise1ThereAreNoPairs() {
        Check.about(1, "Creates an aligner without pairs");
        Glosspair aligner = new Glosspair();
        Check.equal("pairs()", aligner.pairs(), 0);
        for (int number = 0; number <= 20; number++) {
            int pair = number;
            Check.outOfBounds("word of pair " + pair, () -> aligner.word(pair, 0, 0));
        }
        Check.equal("begin()", aligner.begin(), 0);
        Check.equal("round()", aligner.round(), 0);
        for (int fertility = 0; fertility <= 8; fertility++) {
            Check.equal("fertility(0, " + fertility + ")", aligner.fertility(0, fertility), 0);
        }
    }

    private static void promise1BothDraftsAreEmpty() {
        Check.about(1, "both drafts are empty");
        Check.equal("wipe()", new Glosspair().wipe(), 0);
        Check.illegalState("pair()", () -> new Glosspair().pair());
        Check.equal("put(0, 0)", new Glosspair().put(0, 0), 1);
        Check.equal("put(1, 0)", new Glosspair().put(1, 0), 1);
    }

    private static void promise1AllSharesAreZero() {
        Check.about(1, "in millionths, 0 at first");
        Glosspair aligner = new Glosspair();
        for (int cell = 0; cell < 480; cell++) {
            Check.equal("share " + cell, aligner.share(cell / 240, cell / 15 % 16, cell % 15), 0);
        }
    }

    private static void promise2TheSides() {
        Check.about(2, "side: 0 or 1; throws if there is no such side");
        Glosspair aligner = new Glosspair();
        Check.outOfBounds("put(-1, 0)", () -> aligner.put(-1, 0));
        Check.equal("put(0, 0)", aligner.put(0, 0), 1);
        Check.equal("put(1, 0)", aligner.put(1, 0), 1);
        Check.outOfBounds("put(2, 0)", () -> aligner.put(2, 0));
        for (int side : Made.FAR) {
            Check.outOfBounds("put side " + side, () -> aligner.put(side, 0));
        }
        Check.equal("wipe()", aligner.wipe(), 2);
    }

    private static void promise2TheWords() {
        Check.about(2, "word: 0 to 14; throws if there is no such word");
        Glosspair aligner = new Glosspair();
        for (int side = 0; side < 2; side++) {
            int asked = side;
            Check.outOfBounds("word -1", () -> aligner.put(asked, -1));
            Check.equal("word 0", aligner.put(side, 0), 1);
            Check.equal("word 14", aligner.put(side, 14), 2);
            Check.outOfBounds("EMPTY", () -> aligner.put(asked, Glosspair.EMPTY));
            Check.outOfBounds("word 16", () -> aligner.put(asked, 16));
            for (int word : Made.FAR) {
                Check.outOfBounds("word " + word, () -> aligner.put(asked, word));
            }
        }
        Check.equal("wipe()", aligner.wipe(), 4);
    }

    private static void promise2TheEighthAndTheNinth() {
        Check.about(2, "IllegalStateException if it has 8");
        for (int side = 0; side < 2; side++) {
            Glosspair aligner = new Glosspair();
            int full = side;
            for (int many = 1; many <= 8; many++) {
                Check.equal("put the word " + many, aligner.put(full, many), many);
            }
            Check.illegalState("put the ninth", () -> aligner.put(full, 9));
            Check.illegalState("put the ninth again", () -> aligner.put(full, 9));
            for (int many = 1; many <= 8; many++) {
                Check.equal("put into the other draft", aligner.put(1 - full, many), many);
            }
            Check.illegalState("put the other's ninth", () -> aligner.put(1 - full, 9));
            Check.equal("wipe()", aligner.wipe(), 16);
        }
    }

    private static void promise2TheOutOfBoundsComesFirst() {
        Check.about(2, "the one that its throws clause names first is thrown");
        Glosspair aligner = new Glosspair();
        Made.fill(aligner, 0, EIGHT);
        Made.fill(aligner, 1, EIGHT);
        Check.outOfBounds("full, word -1", () -> aligner.put(0, -1));
        Check.outOfBounds("full, EMPTY", () -> aligner.put(1, Glosspair.EMPTY));
        Check.outOfBounds("full, side -1", () -> aligner.put(-1, 0));
        Check.outOfBounds("full, side 2", () -> aligner.put(2, 0));
        Check.outOfBounds("full, side 2, EMPTY", () -> aligner.put(2, Glosspair.EMPTY));
        Check.illegalState("full, word 14", () -> aligner.put(1, 14));
    }

    private static void promise2EightAgainWhenEmptied() {
        Check.about(2, "Returns how many it has then; each of at most 8 words");
        Glosspair aligner = new Glosspair();
        for (int time = 0; time < 3; time++) {
            for (int many = 1; many <= 8; many++) {
                Check.equal("put(0)", aligner.put(0, 0), many);
                Check.equal("put(1)", aligner.put(1, 14), many);
            }
            Check.illegalState("the ninth", () -> aligner.put(0, 0));
            if (time == 0) {
                Check.equal("wipe()", aligner.wipe(), 16);
            } else {
                Check.equal("pair()", aligner.pair(), time - 1);
            }
        }
    }

    private static void promise3WipesNothingAndAll() {
        Check.about(3, "Empties both drafts; returns how many words they had, together");
        Glosspair aligner = new Glosspair();
        Check.equal("of none", aligner.wipe(), 0);
        aligner.put(0, 5);
        Check.equal("of one of the side 0", aligner.wipe(), 1);
        aligner.put(1, 5);
        Check.equal("of one of the side 1", aligner.wipe(), 1);
        Check.equal("of none again", aligner.wipe(), 0);
        Made.fill(aligner, 0, EIGHT);
        Check.equal("of one that is full", aligner.wipe(), 8);
        Made.fill(aligner, 0, EIGHT);
        Made.fill(aligner, 1, EIGHT);
        Check.equal("of two that are full", aligner.wipe(), 16);
        Check.equal("put(0, 1) then", aligner.put(0, 1), 1);
        Check.illegalState("pair() then", () -> aligner.pair());
        Check.equal("put(1, 1) then", aligner.put(1, 1), 1);
    }

    private static void promise3LeavesPairsAlone() {
        Check.about(3, "Empties both drafts, and nothing else");
        Glosspair aligner = new Glosspair();
        Made.pairOf(aligner, Made.words(1, 2), Made.words(3));
        aligner.begin();
        aligner.weight(0, 9);
        Check.equal("wipe() behind pair()", aligner.wipe(), 0);
        Check.equal("pairs()", aligner.pairs(), 1);
        Check.equal("word(0, 0, 1)", aligner.word(0, 0, 1), 2);
        Check.equal("word(0, 1, 0)", aligner.word(0, 1, 0), 3);
        Check.equal("share(0, 1, 3)", aligner.share(0, 1, 3), 1000000);
        Check.equal("weight(0, 0)", aligner.weight(0, 0), 9);
    }

    private static void promise4TheShortestAndTheLongest() {
        Check.about(4, "a sentence of each side, each of 1 to 8 words");
        int[][] lengths = {{1, 1}, {1, 8}, {8, 1}, {8, 8}};
        Glosspair aligner = new Glosspair();
        for (int number = 0; number < lengths.length; number++) {
            int[] first = java.util.Arrays.copyOf(EIGHT, lengths[number][0]);
            int[] second = java.util.Arrays.copyOf(EIGHT, lengths[number][1]);
            Check.equal("pair()", Made.pairOf(aligner, first, second), number);
        }
        for (int number = 0; number < lengths.length; number++) {
            for (int cell = 0; cell < 18; cell++) {
                int side = cell / 9;
                int place = cell % 9;
                int due = place < lengths[number][side] ? EIGHT[place] : Glosspair.NONE;
                Check.equal("word(" + number + ", " + side + ", " + place + ")", aligner.word(number, side, place), due);
            }
        }
    }

    private static void promise4OneDraftIsEmpty() {
        Check.about(4, "IllegalStateException if one of them is empty");
        Glosspair aligner = new Glosspair();
        Check.illegalState("both are empty", () -> aligner.pair());
        for (int side = 0; side < 2; side++) {
            Made.fill(aligner, side, EIGHT);
            Check.illegalState("one is full, one is empty", () -> aligner.pair());
            Check.equal("pairs()", aligner.pairs(), side);
            aligner.put(1 - side, 6);
            Check.equal("pair() with one word more", aligner.pair(), side);
            Check.equal("the words are kept", aligner.word(side, side, 7), EIGHT[7]);
            Check.equal("the words are kept", aligner.word(side, 1 - side, 0), 6);
        }
    }

    private static void promise4TheTwentiethAndTheTwentyFirst() {
        Check.about(4, "IllegalStateException if there were 20; numbered from 0, at most 20 ever");
        Glosspair aligner = new Glosspair();
        for (int number = 0; number < 20; number++) {
            int[] sentence = Made.words(number % 15, 14 - number % 15);
            Check.equal("pair()", Made.pairOf(aligner, sentence, sentence), number);
        }
        Check.illegalState("the next, with empty drafts", () -> aligner.pair());
        aligner.put(0, 7);
        Check.illegalState("the next, with one draft empty", () -> aligner.pair());
        aligner.put(1, 8);
        Check.illegalState("the next", () -> aligner.pair());
        Check.illegalState("the next once more", () -> aligner.pair());
        Check.equal("pairs()", aligner.pairs(), 20);
        Check.equal("the first one's word", aligner.word(0, 0, 0), 0);
        Check.equal("the last one's word", aligner.word(19, 1, 0), 4);
        Check.outOfBounds("a word of the next", () -> aligner.word(20, 0, 0));
        Check.equal("the drafts are kept", aligner.put(1, 9), 2);
        Check.equal("the drafts are kept", aligner.wipe(), 3);
    }

    private static void promise4TwentyEverThoughAllAreTakenBack() {
        Check.about(4, "IllegalStateException if there were 20, at most 20 ever");
        Glosspair aligner = Made.twenty();
        for (int number = 0; number < 20; number++) {
            aligner.takeBack(number);
            aligner.put(0, 0);
            aligner.put(1, 0);
            Check.illegalState("pair() with " + number + " taken back", () -> aligner.pair());
            Check.equal("wipe()", aligner.wipe(), 2);
        }
        Glosspair other = new Glosspair();
        for (int number = 0; number < 20; number++) {
            Check.equal("pair()", Made.pairOf(other, Made.words(1), Made.words(2)), number);
            Check.equal("takeBack()", other.takeBack(number), 0);
        }
        Made.fill(other, 0, 1);
        Made.fill(other, 1, 1);
        Check.illegalState("pair() with each taken back at once", () -> other.pair());
    }

    private static void promise4TheDraftsAreEmptyThen() {
        Check.about(4, "Makes a pair of both drafts, which are empty then");
        Glosspair aligner = new Glosspair();
        Made.pairOf(aligner, EIGHT, EIGHT);
        Check.illegalState("pair() again", () -> aligner.pair());
        Check.equal("wipe()", aligner.wipe(), 0);
        Check.equal("put(0, 9)", aligner.put(0, 9), 1);
        Check.equal("put(1, 10)", aligner.put(1, 10), 1);
        Check.equal("the pair's word of the side 0", aligner.word(0, 0, 0), EIGHT[0]);
        Check.equal("the pair's word of the side 1", aligner.word(0, 1, 0), EIGHT[0]);
        aligner.wipe();
        Check.equal("the pair's last word", aligner.word(0, 1, 7), EIGHT[7]);
    }

    private static void promise5TheNumbers() {
        Check.about(5, "IndexOutOfBoundsException if there is no such pair");
        Glosspair aligner = new Glosspair();
        Check.outOfBounds("0 of none", () -> aligner.takeBack(0));
        Check.outOfBounds("-1 of none", () -> aligner.takeBack(-1));
        Made.pairOf(aligner, Made.words(1), Made.words(2));
        Made.pairOf(aligner, Made.words(3), Made.words(4));
        Check.outOfBounds("-1", () -> aligner.takeBack(-1));
        Check.outOfBounds("2 of two", () -> aligner.takeBack(2));
        Check.outOfBounds("19 of two", () -> aligner.takeBack(19));
        Check.outOfBounds("20 of two", () -> aligner.takeBack(20));
        for (int number : Made.FAR) {
            Check.outOfBounds("takeBack " + number, () -> aligner.takeBack(number));
        }
        Check.equal("pairs()", aligner.pairs(), 2);
        Check.equal("1, the last one", aligner.takeBack(1), 1);
        Check.equal("0, the first one", aligner.takeBack(0), 0);
    }

    private static void promise5TheLastOneThatCanBeMade() {
        Check.about(5, "pair: the number of a pair; returns how many are there then");
        Glosspair aligner = Made.twenty();
        Check.outOfBounds("20 of twenty", () -> aligner.takeBack(20));
        Check.equal("19", aligner.takeBack(19), 19);
        Check.outOfBounds("19 again", () -> aligner.takeBack(19));
        Check.equal("0", aligner.takeBack(0), 18);
        Check.outOfBounds("0 again", () -> aligner.takeBack(0));
        for (int number = 1; number < 19; number++) {
            Check.equal("takeBack " + number, aligner.takeBack(number), 18 - number);
        }
        Check.outOfBounds("18 again", () -> aligner.takeBack(18));
        Check.equal("pairs()", aligner.pairs(), 0);
    }

    private static void promise5NotThereAnyMore() {
        Check.about(5, "A pair may be taken back; it is not there any more then");
        Glosspair aligner = new Glosspair();
        Made.pairOf(aligner, Made.words(0, 1), Made.words(2, 3));
        Made.pairOf(aligner, Made.words(4), Made.words(5));
        aligner.begin();
        aligner.takeBack(0);
        Check.outOfBounds("takeBack(0)", () -> aligner.takeBack(0));
        Check.outOfBounds("word(0, 0, 0)", () -> aligner.word(0, 0, 0));
        Check.outOfBounds("link(0, 0, 0)", () -> aligner.link(0, 0, 0));
        Check.outOfBounds("link(1, 0, 0)", () -> aligner.link(1, 0, 0));
        Check.outOfBounds("isJoined(0, 0, 0)", () -> aligner.isJoined(0, 0, 0) ? 1 : 0);
        Check.outOfBounds("phrases(0)", () -> aligner.phrases(0));
        Check.outOfBounds("phrase(0, 0, 0)", () -> aligner.phrase(0, 0, 0));
        Check.outOfBounds("total(0)", () -> aligner.total(0));
        Check.outOfBounds("totalAnew(0)", () -> aligner.totalAnew(0));
        Check.equal("pairs()", aligner.pairs(), 1);
        Check.equal("the other one keeps its number", aligner.word(1, 0, 0), 4);
        Check.equal("the next one has the next number", Made.pairOf(aligner, Made.words(6), Made.words(7)), 2);
        Check.outOfBounds("word(0, 0, 0) still", () -> aligner.word(0, 0, 0));
        // In either direction a word each in two pairs of one word, and EMPTY for both.
        Check.equal("begin()", aligner.begin(), 2 * (1 + 1 + 2));
    }

    private static void promise9NoneAndTwenty() {
        Check.about(9, "Returns how many pairs are there");
        Glosspair aligner = new Glosspair();
        Check.equal("of a new one", aligner.pairs(), 0);
        aligner.put(0, 1);
        aligner.put(1, 1);
        Check.equal("drafts are none", aligner.pairs(), 0);
        Glosspair full = Made.twenty();
        Check.equal("of twenty", full.pairs(), 20);
        Made.fill(full, 0, 1);
        Made.fill(full, 1, 1);
        Check.illegalState("one more", () -> full.pair());
        Check.equal("of twenty, one more refused", full.pairs(), 20);
        for (int number = 19; number >= 0; number--) {
            full.takeBack(number);
            Check.equal("with one less", full.pairs(), number);
        }
        Check.outOfBounds("one less", () -> full.takeBack(0));
        Check.equal("of none", full.pairs(), 0);
    }

    private static void promise10ThePlaces() {
        Check.about(10, "place from 0 on; NONE, if there are not so many; throws if place is below 0");
        Glosspair aligner = new Glosspair();
        Made.pairOf(aligner, Made.words(6), EIGHT);
        Check.outOfBounds("-1", () -> aligner.word(0, 0, -1));
        Check.equal("0 of one", aligner.word(0, 0, 0), 6);
        Check.equal("1 of one", aligner.word(0, 0, 1), Glosspair.NONE);
        Check.equal("7 of one", aligner.word(0, 0, 7), Glosspair.NONE);
        Check.equal("7 of eight", aligner.word(0, 1, 7), EIGHT[7]);
        Check.equal("8 of eight", aligner.word(0, 1, 8), Glosspair.NONE);
        Check.equal("9 of eight", aligner.word(0, 1, 9), Glosspair.NONE);
        for (int place : Made.FAR) {
            if (place < 0) {
                Check.outOfBounds("place " + place, () -> aligner.word(0, 1, place));
            } else {
                Check.equal("place " + place, aligner.word(0, 1, place), Glosspair.NONE);
            }
        }
    }

    private static void promise10TheSides() {
        Check.about(10, "side: 0 or 1; throws if no such side");
        Glosspair aligner = new Glosspair();
        Made.pairOf(aligner, Made.words(3), Made.words(4));
        Check.outOfBounds("-1", () -> aligner.word(0, -1, 0));
        Check.equal("0", aligner.word(0, 0, 0), 3);
        Check.equal("1", aligner.word(0, 1, 0), 4);
        Check.outOfBounds("2", () -> aligner.word(0, 2, 0));
        Check.outOfBounds("2, where there are not so many", () -> aligner.word(0, 2, 8));
        for (int side : Made.FAR) {
            Check.outOfBounds("side " + side, () -> aligner.word(0, side, 0));
        }
    }

    private static void promise10ThePairs() {
        Check.about(10, "throws if there is no such pair, or it is not there any more");
        Glosspair aligner = Made.twenty();
        Check.outOfBounds("-1", () -> aligner.word(-1, 0, 0));
        Check.equal("0", aligner.word(0, 1, 0), 1);
        Check.equal("19", aligner.word(19, 1, 0), 5);
        Check.outOfBounds("20", () -> aligner.word(20, 0, 0));
        for (int number : Made.FAR) {
            Check.outOfBounds("pair " + number, () -> aligner.word(number, 0, 0));
        }
        aligner.takeBack(19);
        Check.outOfBounds("19, taken back", () -> aligner.word(19, 0, 0));
        Check.outOfBounds("19, taken back, a place too far", () -> aligner.word(19, 0, 8));
        Check.equal("18", aligner.word(18, 0, 0), 3);
    }

    private static void promise10TheWordsThemselves() {
        Check.about(10, "EMPTY stands once ahead of each sentence, in no place");
        for (int word = 0; word <= 14; word++) {
            Glosspair aligner = new Glosspair();
            Made.pairOf(aligner, Made.words(word), Made.words(14 - word, word));
            Check.equal("the first of the side 0", aligner.word(0, 0, 0), word);
            Check.equal("the first of the side 1", aligner.word(0, 1, 0), 14 - word);
            Check.equal("the second of the side 1", aligner.word(0, 1, 1), word);
            Check.equal("none behind", aligner.word(0, 0, 1), Glosspair.NONE);
        }
    }
}
