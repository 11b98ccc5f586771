/** Promises 6, 7 and 11: begin, round, share. */
final class SharesTest {
    public static void main(String[] args) {
        sharesAreZeroAtFirst();
        shareRefusesWhatIsNotThere();
        beginGivesAlikeShares();
        beginGivesOneMoreToTheLowest();
        beginGoesByPairsThatAreThere();
        pairsAloneChangeNoShare();
        roundGivesNewShares();
        roundTakesTheFirstAndTheLastWords();
        roundCountsAWordAtTwoPlacesTwice();
        roundGoesByTheSharesAhead();
        roundGivesWhatIsMissingToTheGreatestRests();
        roundGivesAlikeRestsToTheLowest();
        roundWithoutSharesGivesNone();
        roundSkipsPlacesWithoutShares();
        roundWithoutPairsTakesAllShares();
        Check.end();
    }

    private static void sharesAreZeroAtFirst() {
        Glosspair aligner = new Glosspair();
        Made.pairOf(aligner, Made.words(0, 14), Made.words(0, 14));
        int[] words = {0, 14, Glosspair.EMPTY};
        for (int word : words) {
            Check.equal("share(0) at first", aligner.share(0, word, 0), 0);
            Check.equal("share(1) at first", aligner.share(1, word, 14), 0);
        }
    }

    private static void shareRefusesWhatIsNotThere() {
        Glosspair aligner = new Glosspair();
        int[] below = {-1, Integer.MIN_VALUE};
        for (int number : below) {
            Check.outOfBounds("direction " + number, () -> aligner.share(number, 0, 0));
            Check.outOfBounds("word " + number, () -> aligner.share(0, number, 0));
            Check.outOfBounds("other " + number, () -> aligner.share(1, 0, number));
        }
        int[] above = {16, Integer.MAX_VALUE};
        for (int number : above) {
            Check.outOfBounds("direction " + number, () -> aligner.share(number, 0, 0));
            Check.outOfBounds("word " + number, () -> aligner.share(1, number, 0));
            Check.outOfBounds("other " + number, () -> aligner.share(0, 0, number));
        }
        Check.outOfBounds("direction 2", () -> aligner.share(2, 0, 0));
        Check.outOfBounds("other EMPTY", () -> aligner.share(0, 0, Glosspair.EMPTY));
        Check.outOfBounds("other EMPTY", () -> aligner.share(1, Glosspair.EMPTY, Glosspair.EMPTY));
        Check.equal("share(1, EMPTY, 14)", aligner.share(1, Glosspair.EMPTY, 14), 0);
    }

    private static void beginGivesAlikeShares() {
        Glosspair aligner = new Glosspair();
        Made.pairOf(aligner, Made.words(0, 1), Made.words(5, 6));
        Made.pairOf(aligner, Made.words(1), Made.words(7, 5, 5, 8));
        // Direction 0: 0 has 5 6; 1 and EMPTY have 5 6 7 8. Direction 1: 5, 6, EMPTY have 0 1; 7 8 have 1.
        Check.equal("begin()", aligner.begin(), 2 + 4 + 4 + 2 + 2 + 2 + 1 + 1);
        Check.equal("share(0, 0, 5)", aligner.share(0, 0, 5), 500000);
        Check.equal("share(0, 0, 7)", aligner.share(0, 0, 7), 0);
        Check.equal("share(0, 1, 5)", aligner.share(0, 1, 5), 250000);
        Check.equal("share(0, 1, 8)", aligner.share(0, 1, 8), 250000);
        Check.equal("share(0, EMPTY, 6)", aligner.share(0, Glosspair.EMPTY, 6), 250000);
        Check.equal("share(0, 2, 5)", aligner.share(0, 2, 5), 0);
        Check.equal("share(1, 5, 0)", aligner.share(1, 5, 0), 500000);
        Check.equal("share(1, 7, 1)", aligner.share(1, 7, 1), 1000000);
        Check.equal("share(1, 7, 0)", aligner.share(1, 7, 0), 0);
        Check.equal("share(1, EMPTY, 1)", aligner.share(1, Glosspair.EMPTY, 1), 500000);
        Check.equal("share(1, 0, 5)", aligner.share(1, 0, 5), 0);
        Check.equal("begin() again", aligner.begin(), 18);
        aligner.round();
        Check.equal("begin() after a round", aligner.begin(), 18);
        Check.equal("share(0, 0, 5) is as before", aligner.share(0, 0, 5), 500000);
    }

    private static void beginGivesOneMoreToTheLowest() {
        Glosspair aligner = new Glosspair();
        Made.pairOf(aligner, Made.words(3), Made.words(14, 13, 12, 11, 10, 9, 8));
        Made.pairOf(aligner, Made.words(4), Made.words(7, 6, 5, 4, 3, 2, 1, 0));
        Check.equal("begin()", aligner.begin(), 7 + 8 + 15 + 15 + 2);
        Check.equal("one of 7, the lowest", aligner.share(0, 3, 8), 142858);
        Check.equal("one of 7, the next", aligner.share(0, 3, 9), 142857);
        Check.equal("one of 7, the last", aligner.share(0, 3, 14), 142857);
        Check.equal("one of 8", aligner.share(0, 4, 7), 125000);
        for (int other = 0; other < 15; other++) {
            int due = other < 10 ? 66667 : 66666;
            Check.equal("one of 15, " + other, aligner.share(0, Glosspair.EMPTY, other), due);
        }
    }

    private static void beginGoesByPairsThatAreThere() {
        Glosspair aligner = new Glosspair();
        Made.pairOf(aligner, Made.words(0), Made.words(5));
        Made.pairOf(aligner, Made.words(0, 1), Made.words(6));
        Check.equal("begin()", aligner.begin(), 2 + 1 + 2 + 1 + 2 + 2);
        Check.equal("share(0, 0, 6)", aligner.share(0, 0, 6), 500000);
        aligner.takeBack(1);
        Check.equal("share(0, 0, 6) after takeBack", aligner.share(0, 0, 6), 500000);
        Check.equal("begin() after takeBack", aligner.begin(), 4);
        Check.equal("share(0, 0, 6) after begin", aligner.share(0, 0, 6), 0);
        Check.equal("share(0, 0, 5) after begin", aligner.share(0, 0, 5), 1000000);
        Check.equal("share(0, 1, 6) after begin", aligner.share(0, 1, 6), 0);
        aligner.takeBack(0);
        Check.equal("begin() of none", aligner.begin(), 0);
        Check.equal("share(0, EMPTY, 5) of none", aligner.share(0, Glosspair.EMPTY, 5), 0);
    }

    private static void pairsAloneChangeNoShare() {
        Glosspair aligner = new Glosspair();
        Made.pairOf(aligner, Made.words(0), Made.words(5));
        aligner.begin();
        Made.pairOf(aligner, Made.words(0), Made.words(6));
        Check.equal("share(0, 0, 5)", aligner.share(0, 0, 5), 1000000);
        Check.equal("share(0, 0, 6)", aligner.share(0, 0, 6), 0);
    }

    private static void roundGivesNewShares() {
        Glosspair aligner = new Glosspair();
        Made.pairOf(aligner, Made.words(0, 1), Made.words(3, 4));
        Made.pairOf(aligner, Made.words(0), Made.words(3));
        aligner.begin();
        Check.equal("round()", aligner.round(), 8);
        // 0 counts 333333 + 500000 for 3, and 333333 for 4; 1 counts 333333 for either.
        Check.equal("share(0, 0, 3)", aligner.share(0, 0, 3), 714286);
        Check.equal("share(0, 0, 4)", aligner.share(0, 0, 4), 285714);
        Check.equal("share(0, EMPTY, 3)", aligner.share(0, Glosspair.EMPTY, 3), 714286);
        Check.equal("share(0, 1, 3)", aligner.share(0, 1, 3), 500000);
        Check.equal("share(1, 3, 0)", aligner.share(1, 3, 0), 714286);
        Check.equal("share(1, 4, 1)", aligner.share(1, 4, 1), 500000);
        Check.equal("round() again", aligner.round(), 12);
        Glosspair settled = new Glosspair();
        Made.pairOf(settled, Made.words(0), Made.words(3));
        settled.begin();
        Check.equal("a round that changes nothing", settled.round(), 0);
    }

    private static void roundTakesTheFirstAndTheLastWords() {
        Glosspair aligner = new Glosspair();
        Made.pairOf(aligner, Made.words(0, 14), Made.words(0, 14));
        Made.pairOf(aligner, Made.words(0), Made.words(0));
        Check.equal("begin()", aligner.begin(), 12);
        Check.equal("round()", aligner.round(), 8);
        for (int direction = 0; direction < 2; direction++) {
            Check.equal("0 for 0", aligner.share(direction, 0, 0), 714286);
            Check.equal("0 for 14", aligner.share(direction, 0, 14), 285714);
            Check.equal("14 for 0", aligner.share(direction, 14, 0), 500000);
            Check.equal("14 for 14", aligner.share(direction, 14, 14), 500000);
            Check.equal("EMPTY for 0", aligner.share(direction, Glosspair.EMPTY, 0), 714286);
            Check.equal("EMPTY for 14", aligner.share(direction, Glosspair.EMPTY, 14), 285714);
        }
    }

    private static void roundCountsAWordAtTwoPlacesTwice() {
        Glosspair aligner = new Glosspair();
        Made.pairOf(aligner, Made.words(0, 0), Made.words(3));
        Made.pairOf(aligner, Made.words(0), Made.words(4));
        aligner.begin();
        aligner.round();
        // For 3, S is 1500000, and 0 adds 333333 twice; for 4, S is 1000000, and 0 adds 500000.
        Check.equal("share(0, 0, 3)", aligner.share(0, 0, 3), 571428);
        Check.equal("share(0, 0, 4)", aligner.share(0, 0, 4), 428572);
        // EMPTY adds 333333 and 500000.
        Check.equal("share(0, EMPTY, 3)", aligner.share(0, Glosspair.EMPTY, 3), 400000);
        Check.equal("share(0, EMPTY, 4)", aligner.share(0, Glosspair.EMPTY, 4), 600000);
    }

    private static void roundGoesByTheSharesAhead() {
        Glosspair aligner = new Glosspair();
        Made.pairOf(aligner, Made.words(0, 1), Made.words(5));
        Made.pairOf(aligner, Made.words(0), Made.words(6));
        aligner.begin();
        // 0 and EMPTY have 500000 for 5 and for 6, 1 has 1000000 for 5; S for 5 is 2000000.
        aligner.round();
        // 0 counts 250000 for 5, 500000 for 6; so does EMPTY.
        Check.equal("share(0, 0, 5)", aligner.share(0, 0, 5), 333333);
        Check.equal("share(0, 0, 6)", aligner.share(0, 0, 6), 666667);
        Check.equal("share(0, EMPTY, 5)", aligner.share(0, Glosspair.EMPTY, 5), 333333);
        Check.equal("share(0, 1, 5)", aligner.share(0, 1, 5), 1000000);
    }

    private static void roundGivesWhatIsMissingToTheGreatestRests() {
        Glosspair aligner = new Glosspair();
        Made.pairOf(aligner, Made.words(0), Made.words(5, 6, 6));
        Made.pairOf(aligner, Made.words(0), Made.words(7, 7, 7, 7));
        aligner.begin();
        aligner.round();
        // Counts are as 1, 2 and 4 of 7: 142857 and rest 1, 285714 and rest 2, 571428 and rest 4.
        Check.equal("share(0, 0, 5)", aligner.share(0, 0, 5), 142857);
        Check.equal("share(0, 0, 6)", aligner.share(0, 0, 6), 285714);
        Check.equal("share(0, 0, 7)", aligner.share(0, 0, 7), 571429);
    }

    private static void roundGivesAlikeRestsToTheLowest() {
        Glosspair aligner = new Glosspair();
        Made.pairOf(aligner, Made.words(0), Made.words(9, 8, 7));
        aligner.begin();
        Check.equal("share(0, 0, 7)", aligner.share(0, 0, 7), 333334);
        // Each counts 500000, so a third of the million again.
        Check.equal("round()", aligner.round(), 0);
        Check.equal("share(0, 0, 7)", aligner.share(0, 0, 7), 333334);
        Check.equal("share(0, 0, 8)", aligner.share(0, 0, 8), 333333);
        Check.equal("share(0, 0, 9)", aligner.share(0, 0, 9), 333333);
    }

    private static void roundWithoutSharesGivesNone() {
        Glosspair aligner = new Glosspair();
        Made.pairOf(aligner, Made.words(0, 1), Made.words(5));
        Check.equal("round() ahead of begin()", aligner.round(), 0);
        Check.equal("share(0, 0, 5)", aligner.share(0, 0, 5), 0);
    }

    private static void roundSkipsPlacesWithoutShares() {
        Glosspair aligner = new Glosspair();
        Made.pairOf(aligner, Made.words(0), Made.words(5));
        aligner.begin();
        Made.pairOf(aligner, Made.words(1, 0), Made.words(5, 6));
        Check.equal("round()", aligner.round(), 0);
        Check.equal("share(0, 0, 5)", aligner.share(0, 0, 5), 1000000);
        Check.equal("share(0, 0, 6)", aligner.share(0, 0, 6), 0);
        Check.equal("share(0, 1, 5)", aligner.share(0, 1, 5), 0);
        Check.equal("share(0, EMPTY, 6)", aligner.share(0, Glosspair.EMPTY, 6), 0);
    }

    private static void roundWithoutPairsTakesAllShares() {
        Glosspair aligner = new Glosspair();
        Made.pairOf(aligner, Made.words(0, 1), Made.words(5));
        Check.equal("begin()", aligner.begin(), 3 + 4);
        aligner.takeBack(0);
        Check.equal("share(0, 1, 5) after takeBack", aligner.share(0, 1, 5), 1000000);
        Check.equal("round() of none", aligner.round(), 7);
        Check.equal("share(0, 1, 5)", aligner.share(0, 1, 5), 0);
        Check.equal("share(1, EMPTY, 0)", aligner.share(1, Glosspair.EMPTY, 0), 0);
    }
}
