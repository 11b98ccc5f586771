/** Promises 17 and 18: total, totalAnew. */
final class LikelihoodTest {
    private static final int[] NO_NUMBERS = {-1, 3, 20, Integer.MIN_VALUE, Integer.MAX_VALUE};

    public static void main(String[] args) {
        totalsWithoutShares();
        totalsMultiplySums();
        totalsRoundEachShareByItself();
        totalsCountAWordAtTwoPlacesTwice();
        totalsOfTheLargestPair();
        totalsGoByTheDirectionZero();
        totalsRefuseLongSentences();
        totalsRefuseWhatIsNotThere();
        Check.end();
    }

    private static void totalsAre(Glosspair aligner, int pair, long due) {
        Check.equal("total(" + pair + ")", aligner.total(pair), due);
        Check.equal("totalAnew(" + pair + ")", aligner.totalAnew(pair), due);
    }

    private static void totalsWithoutShares() {
        Glosspair aligner = new Glosspair();
        Made.pairOf(aligner, Made.words(0), Made.words(5));
        totalsAre(aligner, 0, 0);
    }

    private static void totalsMultiplySums() {
        Glosspair aligner = new Glosspair();
        Made.pairOf(aligner, Made.words(0, 1), Made.words(3, 4));
        Made.pairOf(aligner, Made.words(0), Made.words(3));
        aligner.begin();
        // Each share is 500000: three of them at either place, and two at the one of the other pair.
        totalsAre(aligner, 0, 1500L * 1500L);
        totalsAre(aligner, 1, 1000L);
        aligner.round();
        totalsAre(aligner, 0, (714L + 714L + 500L) * (285L + 285L + 500L));
        totalsAre(aligner, 1, 1428L);
    }

    private static void totalsRoundEachShareByItself() {
        Glosspair aligner = new Glosspair();
        Made.pairOf(aligner, Made.words(0, 1), Made.words(5, 6, 7));
        aligner.begin();
        // Shares are 333334 and 333333: together a million, but each by itself is 333 thousands.
        totalsAre(aligner, 0, 999L * 999L * 999L);
    }

    private static void totalsCountAWordAtTwoPlacesTwice() {
        Glosspair aligner = new Glosspair();
        Made.pairOf(aligner, Made.words(0, 0, 0), Made.words(5, 5));
        aligner.begin();
        totalsAre(aligner, 0, 4000L * 4000L);
    }

    private static void totalsOfTheLargestPair() {
        Glosspair aligner = new Glosspair();
        Made.pairOf(aligner, new int[8], new int[4]);
        aligner.begin();
        totalsAre(aligner, 0, 9000L * 9000L * 9000L * 9000L);
    }

    private static void totalsGoByTheDirectionZero() {
        Glosspair aligner = new Glosspair();
        Made.pairOf(aligner, Made.words(1, 2, 3, 4), Made.words(1));
        aligner.begin();
        totalsAre(aligner, 0, 5000L);
    }

    private static void totalsRefuseLongSentences() {
        Glosspair aligner = new Glosspair();
        Made.pairOf(aligner, Made.words(0), new int[5]);
        Made.pairOf(aligner, Made.words(0), new int[8]);
        Made.pairOf(aligner, new int[5], new int[4]);
        Check.illegalState("total of 5 words", () -> aligner.total(0));
        Check.illegalState("totalAnew of 5 words", () -> aligner.totalAnew(0));
        Check.illegalState("total of 8 words", () -> aligner.total(1));
        Check.illegalState("totalAnew of 8 words", () -> aligner.totalAnew(1));
        totalsAre(aligner, 2, 0);
        aligner.takeBack(0);
        Check.outOfBounds("total of 5 words, taken back", () -> aligner.total(0));
        Check.outOfBounds("totalAnew of 5 words, taken back", () -> aligner.totalAnew(0));
    }

    private static void totalsRefuseWhatIsNotThere() {
        Glosspair aligner = new Glosspair();
        Check.outOfBounds("total of none", () -> aligner.total(0));
        Check.outOfBounds("totalAnew of none", () -> aligner.totalAnew(0));
        Made.pairOf(aligner, Made.words(0), Made.words(0));
        for (int number : NO_NUMBERS) {
            Check.outOfBounds("total of " + number, () -> aligner.total(number));
            Check.outOfBounds("totalAnew of " + number, () -> aligner.totalAnew(number));
        }
        aligner.takeBack(0);
        Check.outOfBounds("total of one taken back", () -> aligner.total(0));
        Check.outOfBounds("totalAnew of one taken back", () -> aligner.totalAnew(0));
    }
}
