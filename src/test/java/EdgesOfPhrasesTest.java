/** The edges of promises 14, 15 and 16: phrases, phrase, fertility. */
final class EdgesOfPhrasesTest {
    public static void main(String[] args) {
        promise14ThePairs();
        promise14NoneAndOne();
        promise14AtMostFourPlaces();
        promise14NoLinkLeaves();
        promise14AtTheEnds();
        promise15TheFirstAndTheLastPhrase();
        promise15TheOrder();
        promise15ThePairs();
        promise15TheWhats();
        promise15TheOutOfBoundsComesFirst();
        promise16TheWords();
        promise16TheFertilities();
        promise16TheOutOfBoundsComesFirst();
        promise16NoPlacesAndAll();
        promise16ThePairsThatAreThere();
        Check.end();
    }

    private static void phraseIs(Glosspair aligner, int pair, int phrase, int first, int last, int from, int to) {
        int[] due = {first, last, from, to};
        for (int what = 0; what < 4; what++) {
            String name = "phrase(" + pair + ", " + phrase + ", " + what + ")";
            Check.equal(name, aligner.phrase(pair, phrase, what), due[what]);
        }
    }

    private static void promise14ThePairs() {
        Check.about(14, "throws if there is no such pair, or it is not there any more");
        Glosspair aligner = Made.twenty();
        aligner.begin();
        Check.outOfBounds("-1", () -> aligner.phrases(-1));
        Check.equal("0", aligner.phrases(0), 1);
        Check.equal("19", aligner.phrases(19), 1);
        Check.outOfBounds("20", () -> aligner.phrases(20));
        for (int number : Made.FAR) {
            Check.outOfBounds("pair " + number, () -> aligner.phrases(number));
        }
        aligner.takeBack(19);
        Check.outOfBounds("19, taken back", () -> aligner.phrases(19));
        Check.equal("18", aligner.phrases(18), 1);
        Check.outOfBounds("0 of none", () -> new Glosspair().phrases(0));
    }

    private static void promise14NoneAndOne() {
        Check.about(14, "so that at least one joined link goes from the one to the other");
        Glosspair none = new Glosspair();
        Made.pairOf(none, new int[8], new int[8]);
        Check.equal("without shares", none.phrases(0), 0);
        none.begin();
        Made.weigh(none, 0, 0, 0, 0, 0);
        Check.equal("without weights", none.phrases(0), 0);
        Glosspair one = Made.alike(1, 1);
        Check.equal("of one word each", one.phrases(0), 1);
        phraseIs(one, 0, 0, 0, 0, 0, 0);
        // One link at (3,3): 1, 2, 3 and 4 spans of so many places hold the place 3, on either side.
        Check.equal("with one link", Made.joinedAtOne(8, 3, 8, 3).phrases(1), 10 * 10);
        // Links at (2,2) and (5,5): 8 spans hold 2 and not 5, 8 hold 5 and not 2, one holds both.
        Check.equal("with two links", Made.joinedAt(2, 2, 5, 5).phrases(2), 8 * 8 + 8 * 8 + 1);
    }

    private static void promise14AtMostFourPlaces() {
        Check.about(14, "each of at most 4 places");
        // One place is joined to all of the other side.
        Check.equal("4 places of the side 1", Made.alike(1, 4).phrases(0), 1);
        Check.equal("5 places of the side 1", Made.alike(1, 5).phrases(0), 0);
        Check.equal("8 places of the side 1", Made.alike(1, 8).phrases(0), 0);
        Check.equal("4 places of the side 0", Made.alike(4, 1).phrases(0), 1);
        Check.equal("5 places of the side 0", Made.alike(5, 1).phrases(0), 0);
        Check.equal("8 places of the side 0", Made.alike(8, 1).phrases(0), 0);
        phraseIs(Made.alike(1, 4), 0, 0, 0, 0, 0, 3);
        phraseIs(Made.alike(4, 1), 0, 0, 0, 3, 0, 0);
        // A diagonal has the spans of 1 to 4 places, and none of 5.
        int[] due = {0, 1, 3, 6, 10, 14, 18, 22, 26};
        for (int many = 1; many <= 8; many++) {
            Check.equal("a diagonal of " + many, Made.alike(many, many).phrases(0), due[many]);
        }
        Glosspair both = Made.joinedAt(0, 0, 3, 3);
        Check.equal("two links, 4 and 4 places", has(both, 2, 0, 3, 0, 3), 1);
        Check.equal("phrases of both", both.phrases(2), 3 * 3 + 9 * 9 + 1);
        Glosspair high = Made.joinedAt(0, 0, 4, 3);
        Check.equal("two links, 5 and 4 places", has(high, 2, 0, 4, 0, 3), 0);
        Check.equal("phrases of either", high.phrases(2), 4 * 3 + 10 * 9);
        Glosspair wide = Made.joinedAt(0, 0, 3, 4);
        Check.equal("two links, 4 and 5 places", has(wide, 2, 0, 3, 0, 4), 0);
        Check.equal("phrases of either", wide.phrases(2), 3 * 4 + 9 * 10);
    }

    /** Whether such a phrase is among all that there are. */
    private static int has(Glosspair aligner, int pair, int first, int last, int from, int to) {
        int[] ends = {first, last, from, to};
        int many = aligner.phrases(pair);
        for (int phrase = 0; phrase < many; phrase++) {
            int alike = 0;
            while (alike < 4 && aligner.phrase(pair, phrase, alike) == ends[alike]) {
                alike++;
            }
            if (alike == 4) {
                return 1;
            }
        }
        return 0;
    }

    private static void promise14NoLinkLeaves() {
        Check.about(14, "and none from one of them to places out of the other one");
        // The one place of the side 0 is joined to both of the side 1, and the other way round.
        Glosspair wide = Made.alike(1, 2);
        Check.equal("of (0,0) and (0,1)", wide.phrases(0), 1);
        phraseIs(wide, 0, 0, 0, 0, 0, 1);
        Glosspair high = Made.alike(2, 1);
        Check.equal("of (0,0) and (1,0)", high.phrases(0), 1);
        phraseIs(high, 0, 0, 0, 1, 0, 0);
        // Crossed ones: a span over both of one side needs both of the other.
        Glosspair crossed = Made.joinedAt(0, 1, 1, 0);
        Check.equal("of crossed ones, the first", has(crossed, 2, 0, 0, 1, 1), 1);
        Check.equal("of crossed ones, the second", has(crossed, 2, 1, 1, 0, 0), 1);
        Check.equal("of crossed ones, both", has(crossed, 2, 0, 1, 0, 1), 1);
        Check.equal("one leaves the span of the side 0", has(crossed, 2, 0, 1, 0, 0), 0);
        Check.equal("one leaves the span of the side 1", has(crossed, 2, 0, 0, 0, 1), 0);
    }

    private static void promise14AtTheEnds() {
        Check.about(14, "a span of places of the side 0, and one of the side 1: up to the last places");
        Glosspair lastHigh = Made.joinedAtOne(8, 7, 1, 0);
        Glosspair lastWide = Made.joinedAtOne(1, 0, 8, 7);
        Glosspair firstHigh = Made.joinedAtOne(8, 0, 1, 0);
        Glosspair firstWide = Made.joinedAtOne(1, 0, 8, 0);
        Check.equal("(7,0) alone", lastHigh.phrases(1), 4);
        Check.equal("(0,7) alone", lastWide.phrases(1), 4);
        Check.equal("(0,0) alone, high", firstHigh.phrases(1), 4);
        Check.equal("(0,0) alone, wide", firstWide.phrases(1), 4);
        for (int phrase = 0; phrase < 4; phrase++) {
            phraseIs(lastHigh, 1, phrase, 4 + phrase, 7, 0, 0);
            phraseIs(lastWide, 1, phrase, 0, 0, 4 + phrase, 7);
            phraseIs(firstHigh, 1, phrase, 0, phrase, 0, 0);
            phraseIs(firstWide, 1, phrase, 0, 0, 0, phrase);
        }
        Glosspair last = Made.joinedAtOne(8, 7, 8, 7);
        Check.equal("(7,7) alone", last.phrases(1), 16);
        phraseIs(last, 1, 0, 4, 7, 4, 7);
        phraseIs(last, 1, 15, 7, 7, 7, 7);
        Glosspair first = Made.joinedAtOne(8, 0, 8, 0);
        Check.equal("(0,0) alone", first.phrases(1), 16);
        phraseIs(first, 1, 0, 0, 0, 0, 0);
        phraseIs(first, 1, 15, 0, 3, 0, 3);
    }

    private static void promise15TheFirstAndTheLastPhrase() {
        Check.about(15, "phrase: from 0 on; throws if there is no such phrase");
        Glosspair aligner = Made.alike(3, 3);
        Check.equal("phrases(0)", aligner.phrases(0), 6);
        Check.outOfBounds("-1", () -> aligner.phrase(0, -1, 0));
        phraseIs(aligner, 0, 0, 0, 0, 0, 0);
        phraseIs(aligner, 0, 5, 2, 2, 2, 2);
        Check.outOfBounds("6 of six", () -> aligner.phrase(0, 6, 0));
        for (int phrase : Made.FAR) {
            Check.outOfBounds("phrase " + phrase, () -> aligner.phrase(0, phrase, 0));
        }
        Made.weigh(aligner, 0, 0, 0, 0, 0);
        Check.outOfBounds("0 of none", () -> aligner.phrase(0, 0, 0));
        Glosspair two = Made.joinedAt(2, 2, 5, 5);
        Check.outOfBounds("-1", () -> two.phrase(2, -1, 3));
        phraseIs(two, 2, 0, 0, 2, 0, 2);
        phraseIs(two, 2, 128, 5, 7, 5, 7);
        Check.outOfBounds("129 of 129", () -> two.phrase(2, 129, 3));
    }

    private static void promise15TheOrder() {
        Check.about(15, "ordered by the first and the last place of the side 0, then of the side 1");
        // With one link at (3,3) these are the spans of either side, each with each.
        int[][] spans = {{0, 3}, {1, 3}, {1, 4}, {2, 3}, {2, 4}, {2, 5}, {3, 3}, {3, 4}, {3, 5}, {3, 6}};
        Glosspair aligner = Made.joinedAtOne(8, 3, 8, 3);
        Check.equal("phrases(1)", aligner.phrases(1), 100);
        for (int phrase = 0; phrase < 100; phrase++) {
            int[] high = spans[phrase / 10];
            int[] wide = spans[phrase % 10];
            phraseIs(aligner, 1, phrase, high[0], high[1], wide[0], wide[1]);
        }
        Check.outOfBounds("100 of 100", () -> aligner.phrase(1, 100, 0));
        Check.outOfBounds("101 of 100", () -> aligner.phrase(1, 101, 0));
    }

    private static void promise15ThePairs() {
        Check.about(15, "throws if there is no such pair, or the pair is not there any more");
        Glosspair aligner = Made.twenty();
        aligner.begin();
        Check.outOfBounds("-1", () -> aligner.phrase(-1, 0, 0));
        Check.equal("0", aligner.phrase(0, 0, 0), 0);
        Check.equal("19", aligner.phrase(19, 0, 3), 0);
        Check.outOfBounds("20", () -> aligner.phrase(20, 0, 0));
        for (int number : Made.FAR) {
            Check.outOfBounds("pair " + number, () -> aligner.phrase(number, 0, 0));
        }
        aligner.takeBack(19);
        Check.outOfBounds("19, taken back", () -> aligner.phrase(19, 0, 0));
        Check.equal("18", aligner.phrase(18, 0, 0), 0);
        Check.outOfBounds("0 of none", () -> new Glosspair().phrase(0, 0, 0));
    }

    private static void promise15TheWhats() {
        Check.about(15, "what: 0 the first place of the side 0, to 3; throws if what is out of range");
        // (1,2) alone, of 3 and 4 places: 4 spans hold 1, 6 hold 2; the last ones are 1 to 2 and 2 to 3.
        Glosspair aligner = Made.joinedAtOne(3, 1, 4, 2);
        Check.equal("phrases(1)", aligner.phrases(1), 4 * 6);
        Check.illegalArgument("-1", () -> aligner.phrase(1, 23, -1));
        Check.equal("0", aligner.phrase(1, 23, 0), 1);
        Check.equal("1", aligner.phrase(1, 23, 1), 2);
        Check.equal("2", aligner.phrase(1, 23, 2), 2);
        Check.equal("3", aligner.phrase(1, 23, 3), 3);
        Check.illegalArgument("4", () -> aligner.phrase(1, 23, 4));
        for (int what : Made.FAR) {
            Check.illegalArgument("what " + what, () -> aligner.phrase(1, 0, what));
        }
    }

    private static void promise15TheOutOfBoundsComesFirst() {
        Check.about(15, "the one that its throws clause names first is thrown");
        Glosspair aligner = Made.alike(3, 3);
        Made.pairOf(aligner, Made.words(1), Made.words(1));
        aligner.takeBack(1);
        int[] whats = {-1, 4, Integer.MIN_VALUE, Integer.MAX_VALUE};
        for (int what : whats) {
            Check.outOfBounds("no such pair, what " + what, () -> aligner.phrase(-1, 0, what));
            Check.outOfBounds("no such pair, what " + what, () -> aligner.phrase(2, 0, what));
            Check.outOfBounds("a pair taken back, what " + what, () -> aligner.phrase(1, 0, what));
            Check.outOfBounds("no such phrase, what " + what, () -> aligner.phrase(0, -1, what));
            Check.outOfBounds("no such phrase, what " + what, () -> aligner.phrase(0, 6, what));
            Check.outOfBounds("neither, what " + what, () -> aligner.phrase(2, -1, what));
            Check.illegalArgument("the last phrase, what " + what, () -> aligner.phrase(0, 5, what));
        }
    }

    private static void promise16TheWords() {
        Check.about(16, "word: 0 to 14; throws if there is no such word");
        Glosspair aligner = new Glosspair();
        Made.pairOf(aligner, Made.words(0, 14, 14), Made.words(7));
        Check.outOfBounds("-1", () -> aligner.fertility(-1, 0));
        Check.equal("0", aligner.fertility(0, 0), 1);
        Check.equal("7, of the side 1", aligner.fertility(7, 0), 0);
        Check.equal("14", aligner.fertility(14, 0), 2);
        Check.outOfBounds("EMPTY", () -> aligner.fertility(Glosspair.EMPTY, 0));
        Check.outOfBounds("16", () -> aligner.fertility(16, 0));
        for (int word : Made.FAR) {
            Check.outOfBounds("word " + word, () -> aligner.fertility(word, 0));
        }
    }

    private static void promise16TheFertilities() {
        Check.about(16, "fertility: 0 to 8; throws if fertility is out of range");
        for (int many = 1; many <= 8; many++) {
            Glosspair aligner = Made.alike(1, many);
            Check.illegalArgument("-1", () -> aligner.fertility(0, -1));
            for (int fertility = 0; fertility <= 8; fertility++) {
                String what = "fertility " + fertility + " of a place with " + many;
                Check.equal(what, aligner.fertility(0, fertility), fertility == many ? 1 : 0);
            }
            Check.illegalArgument("9", () -> aligner.fertility(0, 9));
            for (int fertility : Made.FAR) {
                Check.illegalArgument("fertility " + fertility, () -> aligner.fertility(0, fertility));
            }
        }
    }

    private static void promise16TheOutOfBoundsComesFirst() {
        Check.about(16, "the one that its throws clause names first is thrown");
        Glosspair aligner = new Glosspair();
        Check.outOfBounds("(-1, -1)", () -> aligner.fertility(-1, -1));
        Check.outOfBounds("(-1, 9)", () -> aligner.fertility(-1, 9));
        Check.outOfBounds("(EMPTY, -1)", () -> aligner.fertility(Glosspair.EMPTY, -1));
        Check.outOfBounds("(EMPTY, 9)", () -> aligner.fertility(Glosspair.EMPTY, 9));
        Check.illegalArgument("(14, 9)", () -> aligner.fertility(14, 9));
        Check.illegalArgument("(0, -1)", () -> aligner.fertility(0, -1));
    }

    private static void promise16NoPlacesAndAll() {
        Check.about(16, "Returns how many there are, in all pairs");
        Glosspair aligner = new Glosspair();
        Made.fill(aligner, 0, 14);
        Check.equal("of a draft", aligner.fertility(14, 0), 0);
        aligner.wipe();
        int[] sentence = new int[8];
        java.util.Arrays.fill(sentence, 14);
        for (int number = 0; number < 20; number++) {
            Made.pairOf(aligner, sentence, sentence);
        }
        Check.equal("of all, without a link", aligner.fertility(14, 0), 160);
        Check.equal("of all, with one link", aligner.fertility(14, 1), 0);
        aligner.begin();
        Check.equal("of all, without a link", aligner.fertility(14, 0), 0);
        Check.equal("of all, with one link", aligner.fertility(14, 1), 160);
        Check.equal("of another word", aligner.fertility(13, 0), 0);
    }

    private static void promise16ThePairsThatAreThere() {
        Check.about(16, "in all pairs that are there");
        Glosspair aligner = new Glosspair();
        for (int number = 0; number < 20; number++) {
            Made.pairOf(aligner, Made.words(5, 5), Made.words(6));
        }
        Check.equal("of twenty", aligner.fertility(5, 0), 40);
        aligner.takeBack(0);
        Check.equal("without the first", aligner.fertility(5, 0), 38);
        aligner.takeBack(19);
        Check.equal("without the last", aligner.fertility(5, 0), 36);
        for (int number = 1; number < 19; number++) {
            aligner.takeBack(number);
        }
        Check.equal("of none", aligner.fertility(5, 0), 0);
    }
}
