/** Promises 14, 15 and 16: phrases, phrase, fertility. */
final class PhrasesTest {
    private static final int[] NO_NUMBERS = {-1, 2, 20, Integer.MIN_VALUE, Integer.MAX_VALUE};

    public static void main(String[] args) {
        phrasesOfADiagonal();
        phrasesTakePlacesWithoutLinks();
        phrasesAreAtMostFourPlaces();
        phrasesOfCrossedLinks();
        phrasesOfNoLinks();
        phrasesRefuseWhatIsNotThere();
        phraseRefusesWhatIsNotThere();
        fertilityCountsPlaces();
        fertilityCountsOverAllPairs();
        fertilityRefusesWhatIsNotThere();
        Check.end();
    }

    private static void phrasesAre(Glosspair aligner, int[]... due) {
        Check.equal("phrases(0)", aligner.phrases(0), due.length);
        for (int phrase = 0; phrase < due.length; phrase++) {
            for (int what = 0; what < 4; what++) {
                String name = "phrase(0, " + phrase + ", " + what + ")";
                Check.equal(name, aligner.phrase(0, phrase, what), due[phrase][what]);
            }
        }
        Check.outOfBounds("a phrase too many", () -> aligner.phrase(0, due.length, 0));
    }

    private static int[] ends(int first, int last, int from, int to) {
        return new int[] {first, last, from, to};
    }

    private static void phrasesOfADiagonal() {
        phrasesAre(Made.alike(3, 3),
                ends(0, 0, 0, 0), ends(0, 1, 0, 1), ends(0, 2, 0, 2),
                ends(1, 1, 1, 1), ends(1, 2, 1, 2), ends(2, 2, 2, 2));
    }

    private static void phrasesTakePlacesWithoutLinks() {
        // Only the first places of both sides are joined.
        Glosspair aligner = Made.alike(3, 1, 9, 0, 5, 0, 0);
        phrasesAre(aligner, ends(0, 0, 0, 0), ends(0, 1, 0, 0), ends(0, 2, 0, 0));
        Glosspair other = Made.alike(1, 3, 9, 0, 5, 0, 0);
        phrasesAre(other, ends(0, 0, 0, 0), ends(0, 0, 0, 1), ends(0, 0, 0, 2));
        // Only places two apart are joined: the middle ones have no link.
        Glosspair crossed = Made.alike(3, 3, 0, 0, 1, 0, 0);
        phrasesAre(crossed,
                ends(0, 0, 1, 2), ends(0, 0, 2, 2), ends(0, 1, 1, 2), ends(0, 1, 2, 2),
                ends(0, 2, 0, 2), ends(1, 2, 0, 0), ends(1, 2, 0, 1), ends(2, 2, 0, 0), ends(2, 2, 0, 1));
    }

    private static void phrasesAreAtMostFourPlaces() {
        Check.equal("phrases of a diagonal of 8", Made.alike(8, 8).phrases(0), 8 + 7 + 6 + 5);
        // A place that is joined to 4 others has a phrase, one that is joined to 5 has none.
        phrasesAre(Made.alike(1, 4), ends(0, 0, 0, 3));
        phrasesAre(Made.alike(4, 1), ends(0, 3, 0, 0));
        phrasesAre(Made.alike(1, 5));
        phrasesAre(Made.alike(5, 1));
        // (0,0) alone is joined: its span of either side grows to 4 places.
        Check.equal("phrases with 7 free places", Made.alike(8, 1, 9, 0, 5, 0, 0).phrases(0), 4);
        Check.equal("phrases with 7 free places", Made.alike(1, 8, 9, 0, 5, 0, 0).phrases(0), 4);
    }

    private static void phrasesOfCrossedLinks() {
        // (0,1) and (1,0)
        phrasesAre(Made.alike(2, 2, 0, 1, 0, 0, 0), ends(0, 0, 1, 1), ends(0, 1, 0, 1), ends(1, 1, 0, 0));
        // (0,2), (0,1), (1,0)
        phrasesAre(Made.alike(2, 3, 1, 1, 2, 0, 0), ends(0, 0, 1, 2), ends(0, 1, 0, 2), ends(1, 1, 0, 0));
    }

    private static void phrasesOfNoLinks() {
        Glosspair aligner = new Glosspair();
        Made.pairOf(aligner, Made.words(0, 1), Made.words(0, 1));
        phrasesAre(aligner);
        aligner.begin();
        Check.equal("phrases(0) after begin", aligner.phrases(0), 3);
        aligner.weight(4, 9);
        phrasesAre(aligner);
    }

    private static void phrasesRefuseWhatIsNotThere() {
        Glosspair aligner = Made.alike(2, 2);
        for (int number : NO_NUMBERS) {
            Check.outOfBounds("phrases of " + number, () -> aligner.phrases(number));
        }
        Check.outOfBounds("phrases(1)", () -> aligner.phrases(1));
        aligner.takeBack(0);
        Check.outOfBounds("phrases of one taken back", () -> aligner.phrases(0));
    }

    private static void phraseRefusesWhatIsNotThere() {
        Glosspair aligner = Made.alike(1, 1);
        int[] noWhats = {-1, 4, Integer.MIN_VALUE, Integer.MAX_VALUE};
        for (int what : noWhats) {
            Check.illegalArgument("phrase what " + what, () -> aligner.phrase(0, 0, what));
            Check.outOfBounds("no phrase, what " + what, () -> aligner.phrase(0, 1, what));
            Check.outOfBounds("no pair, what " + what, () -> aligner.phrase(1, 0, what));
        }
        for (int number : NO_NUMBERS) {
            Check.outOfBounds("phrase " + number, () -> aligner.phrase(0, number, 0));
            Check.outOfBounds("phrase of pair " + number, () -> aligner.phrase(number, 0, 0));
        }
        Check.outOfBounds("phrase(0, 1, 0)", () -> aligner.phrase(0, 1, 0));
        Check.equal("phrase(0, 0, 3)", aligner.phrase(0, 0, 3), 0);
        aligner.takeBack(0);
        Check.outOfBounds("phrase of one taken back", () -> aligner.phrase(0, 0, 0));
    }

    private static void fertilityCountsPlaces() {
        Glosspair wide = Made.alike(1, 8);
        for (int fertility = 0; fertility <= 8; fertility++) {
            Check.equal("fertility " + fertility, wide.fertility(0, fertility), fertility == 8 ? 1 : 0);
        }
        Glosspair tall = Made.alike(8, 1);
        Check.equal("fertility(0, 1) of 8 places", tall.fertility(0, 1), 8);
        Check.equal("fertility(0, 0) of 8 places", tall.fertility(0, 0), 0);
        tall.weight(4, 9);
        Check.equal("fertility(0, 0) without links", tall.fertility(0, 0), 8);
        // (0,2), (0,1), (1,0)
        Glosspair crossed = Made.alike(2, 3, 1, 1, 2, 0, 0);
        Check.equal("fertility(0, 2)", crossed.fertility(0, 2), 1);
        Check.equal("fertility(0, 1)", crossed.fertility(0, 1), 1);
        Check.equal("fertility(1, 0) of no word", crossed.fertility(1, 0), 0);
    }

    private static void fertilityCountsOverAllPairs() {
        Glosspair aligner = new Glosspair();
        Check.equal("fertility without pairs", aligner.fertility(14, 0), 0);
        Made.pairOf(aligner, Made.words(3, 14), Made.words(5, 6));
        Made.pairOf(aligner, Made.words(14), Made.words(5, 7));
        Check.equal("fertility(14, 0) ahead of begin()", aligner.fertility(14, 0), 2);
        aligner.begin();
        Check.equal("fertility(14, 1)", aligner.fertility(14, 1), 1);
        Check.equal("fertility(14, 2)", aligner.fertility(14, 2), 1);
        // 3 has a half for 6, and 14 a third: the direction 0 links both places of the side 1 to 3.
        Check.equal("fertility(3, 2)", aligner.fertility(3, 2), 1);
        Check.equal("fertility(3, 1)", aligner.fertility(3, 1), 0);
        aligner.takeBack(0);
        Check.equal("fertility(3, 2) after takeBack", aligner.fertility(3, 2), 0);
        Check.equal("fertility(14, 2) after takeBack", aligner.fertility(14, 2), 1);
        Check.equal("fertility(5, 0) of a word of the side 1", aligner.fertility(5, 0), 0);
    }

    private static void fertilityRefusesWhatIsNotThere() {
        Glosspair aligner = Made.alike(2, 2);
        int[] noWords = {-1, 15, 16, Integer.MIN_VALUE, Integer.MAX_VALUE};
        for (int word : noWords) {
            Check.outOfBounds("fertility of word " + word, () -> aligner.fertility(word, 0));
            Check.outOfBounds("fertility of word " + word, () -> aligner.fertility(word, 9));
        }
        int[] noFertilities = {-1, 9, Integer.MIN_VALUE, Integer.MAX_VALUE};
        for (int fertility : noFertilities) {
            Check.illegalArgument("fertility " + fertility, () -> aligner.fertility(14, fertility));
        }
        Check.equal("fertility(0, 1)", aligner.fertility(0, 1), 2);
    }
}
