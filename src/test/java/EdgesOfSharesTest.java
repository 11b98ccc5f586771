/** The edges of promises 6, 7, 8 and 11: begin, round, weight, share. */
final class EdgesOfSharesTest {
    public static void main(String[] args) {
        promise6NoPairsAndAll();
        promise6AMillionAmongOneToFifteen();
        promise6TogetherInSomePair();
        promise6NoneThatStandTogether();
        promise6ForgetsRounds();
        promise7NothingToLearnFrom();
        promise7AllSharesAreOtherOnes();
        promise7ThePlacesWithoutAnySum();
        promise7TheSmallestSum();
        promise7CountsThatAreRoundedToNone();
        promise7AWordAtSeveralPlaces();
        promise7TheMostThatCanBeMissing();
        promise7AlikeRests();
        promise7ThePairsThatAreThere();
        promise7TheLastCall();
        promise8TheAparts();
        promise8TheWeights();
        promise8TheOutOfBoundsComesFirst();
        promise11TheDirections();
        promise11TheWords();
        promise11TheOthers();
        Check.end();
    }

    private static void promise6NoPairsAndAll() {
        Check.about(6, "returns how many shares are above 0 then, in both directions, together");
        Glosspair none = new Glosspair();
        Check.equal("begin() of none", none.begin(), 0);
        none.put(0, 1);
        none.put(1, 1);
        Check.equal("begin() of drafts", none.begin(), 0);
        none.pair();
        Check.equal("begin() of one word each", none.begin(), 4);
        none.takeBack(0);
        Check.equal("begin() of one taken back", none.begin(), 0);
        Glosspair widest = Made.widest();
        Check.equal("begin() of all words", widest.begin(), 2 * 16 * 15);
        Check.equal("begin() of all words again", widest.begin(), 2 * 16 * 15);
    }

    private static void promise6AMillionAmongOneToFifteen() {
        Check.about(6, "a million, divided by how many they are, and one more for each of the lowest ones");
        for (int direction = 0; direction < 2; direction++) {
            for (int many = 1; many <= 15; many++) {
                Glosspair aligner = manyOthers(direction, many);
                Check.equal("begin() with " + many, aligner.begin(), 3 * many + 1);
                int rest = 1000000 % many;
                for (int other = 0; other < 15; other++) {
                    int rank = other - (15 - many);
                    int due = rank < 0 ? 0 : 1000000 / many + (rank < rest ? 1 : 0);
                    String what = "the share of one of " + many + " for " + other;
                    Check.equal(what, aligner.share(direction, 6, other), due);
                    Check.equal(what + ", of EMPTY", aligner.share(direction, Glosspair.EMPTY, other), due);
                }
            }
        }
    }

    /** The word 6 of the side that answers stands together with the so many highest, the last one first. */
    private static Glosspair manyOthers(int direction, int many) {
        Glosspair aligner = new Glosspair();
        for (int given = 0; given < many; given++) {
            aligner.put(1 - direction, 14 - given);
            if (given % 8 == 7 || given == many - 1) {
                aligner.put(direction, 6);
                aligner.pair();
            }
        }
        return aligner;
    }

    private static void promise6TogetherInSomePair() {
        Check.about(6, "all words of the other side that stand together with it in some pair that is there");
        Glosspair aligner = new Glosspair();
        Made.pairOf(aligner, Made.words(0), Made.words(5, 5, 5));
        Made.pairOf(aligner, Made.words(0, 0), Made.words(5, 7));
        Made.pairOf(aligner, Made.words(1), Made.words(6));
        Made.pairOf(aligner, Made.words(0), Made.words(8));
        aligner.takeBack(3);
        Check.equal("begin()", aligner.begin(), 2 + 1 + 3 + 1 + 1 + 1 + 2);
        Check.equal("5 stands with 0 often, and counts once", aligner.share(0, 0, 5), 500000);
        Check.equal("7 stands with 0", aligner.share(0, 0, 7), 500000);
        Check.equal("6 stands with 1 alone", aligner.share(0, 0, 6), 0);
        Check.equal("8 stood with 0", aligner.share(0, 0, 8), 0);
        Check.equal("EMPTY stands with the lowest", aligner.share(0, Glosspair.EMPTY, 5), 333334);
        Check.equal("EMPTY stands with all", aligner.share(0, Glosspair.EMPTY, 7), 333333);
        Check.equal("EMPTY stood with 8", aligner.share(0, Glosspair.EMPTY, 8), 0);
        Check.equal("no word stands with its own side", aligner.share(0, 0, 1), 0);
    }

    private static void promise6NoneThatStandTogether() {
        Check.about(6, "If there are none, its shares are 0");
        Glosspair aligner = Made.widest();
        aligner.begin();
        aligner.takeBack(1);
        aligner.takeBack(2);
        aligner.takeBack(3);
        Check.equal("taking back alone changes no share", aligner.share(0, 14, 14), 66666);
        // The pair that is left has the words 0 to 7 on either side.
        Check.equal("begin()", aligner.begin(), 2 * 9 * 8);
        for (int other = 0; other < 15; other++) {
            Check.equal("8 for " + other, aligner.share(0, 8, other), 0);
            Check.equal("14 for " + other, aligner.share(1, 14, other), 0);
            Check.equal("7 for " + other, aligner.share(0, 7, other), other < 8 ? 125000 : 0);
            Check.equal("EMPTY for " + other, aligner.share(1, Glosspair.EMPTY, other), other < 8 ? 125000 : 0);
        }
        aligner.takeBack(0);
        Check.equal("begin() of none", aligner.begin(), 0);
        Check.equal("7 for 7", aligner.share(0, 7, 7), 0);
        Check.equal("EMPTY for 7", aligner.share(0, Glosspair.EMPTY, 7), 0);
    }

    private static void promise6ForgetsRounds() {
        Check.about(6, "Begins: gives alike shares, whatever they were");
        Glosspair aligner = decayed();
        Check.equal("share(0, EMPTY, 7) behind rounds", aligner.share(0, Glosspair.EMPTY, 7), 1);
        Check.equal("begin()", aligner.begin(), 2 + 1 + 1 + 3 + 1 + 1 + 2 + 3);
        Check.equal("share(0, EMPTY, 7)", aligner.share(0, Glosspair.EMPTY, 7), 333333);
    }

    /** Eight rounds leave EMPTY the least share that is above 0 for 7, which 1 and 2 answer for. */
    private static Glosspair decayed() {
        Glosspair aligner = new Glosspair();
        Made.pairOf(aligner, Made.words(0), Made.words(5, 5, 6));
        Made.pairOf(aligner, Made.words(1, 2, 2), Made.words(7));
        aligner.begin();
        Made.rounds(aligner, 8);
        return aligner;
    }

    private static void promise7NothingToLearnFrom() {
        Check.about(7, "returns how many shares are other ones by it: none");
        Glosspair aligner = new Glosspair();
        Check.equal("round() of a new one", aligner.round(), 0);
        Made.pairOf(aligner, Made.words(0, 1), Made.words(5, 6));
        Check.equal("round() ahead of begin()", aligner.round(), 0);
        Check.equal("share(0, 0, 5)", aligner.share(0, 0, 5), 0);
        Check.equal("share(0, EMPTY, 5)", aligner.share(0, Glosspair.EMPTY, 5), 0);
        Glosspair settled = Made.widest();
        settled.begin();
        // All are alike, so each word that answers counts alike again; the lowest have one more still.
        Check.equal("share(0, 0, 9)", settled.share(0, 0, 9), 66667);
        Check.equal("share(0, 0, 10)", settled.share(0, 0, 10), 66666);
        Check.equal("round() of alike ones", settled.round(), 0);
        Check.equal("share(0, 0, 9) still", settled.share(0, 0, 9), 66667);
        Check.equal("share(0, 0, 10) still", settled.share(0, 0, 10), 66666);
    }

    private static void promise7AllSharesAreOtherOnes() {
        Check.about(7, "returns how many shares are other ones by it: all; if the sum is 0, its shares are 0");
        Glosspair aligner = Made.widest();
        aligner.begin();
        for (int number = 0; number < 4; number++) {
            aligner.takeBack(number);
        }
        Check.equal("share(1, 14, 14)", aligner.share(1, 14, 14), 66666);
        Check.equal("round() without pairs", aligner.round(), 480);
        Check.equal("share(1, 14, 14) then", aligner.share(1, 14, 14), 0);
        Check.equal("share(0, EMPTY, 0) then", aligner.share(0, Glosspair.EMPTY, 0), 0);
        Check.equal("round() again", aligner.round(), 0);
    }

    private static void promise7ThePlacesWithoutAnySum() {
        Check.about(7, "if S is above 0: at 0 nothing is counted");
        Glosspair aligner = new Glosspair();
        Made.pairOf(aligner, Made.words(0), Made.words(5));
        aligner.begin();
        Made.pairOf(aligner, Made.words(1, 0), Made.words(6, 5));
        aligner.takeBack(0);
        // At the place of 6 none has a share; at that of 5, 0 and EMPTY have a million each.
        Check.equal("round()", aligner.round(), 0);
        Check.equal("share(0, 0, 5)", aligner.share(0, 0, 5), 1000000);
        Check.equal("share(0, EMPTY, 5)", aligner.share(0, Glosspair.EMPTY, 5), 1000000);
        Check.equal("share(0, EMPTY, 6)", aligner.share(0, Glosspair.EMPTY, 6), 0);
        Check.equal("share(0, 0, 6)", aligner.share(0, 0, 6), 0);
        Check.equal("share(0, 1, 5)", aligner.share(0, 1, 5), 0);
        Check.equal("share(1, 6, 0)", aligner.share(1, 6, 0), 0);
    }

    private static void promise7TheSmallestSum() {
        Check.about(7, "if S is above 0: at 1 it is counted");
        Glosspair aligner = decayed();
        Made.pairOf(aligner, Made.words(3), Made.words(7));
        aligner.takeBack(0);
        aligner.takeBack(1);
        Check.equal("share(0, 3, 7)", aligner.share(0, 3, 7), 0);
        Check.equal("share(0, EMPTY, 7)", aligner.share(0, Glosspair.EMPTY, 7), 1);
        aligner.round();
        Check.equal("share(0, 3, 7) then", aligner.share(0, 3, 7), 0);
        Check.equal("share(0, EMPTY, 7) then", aligner.share(0, Glosspair.EMPTY, 7), 1000000);
        Check.equal("share(0, EMPTY, 5) then", aligner.share(0, Glosspair.EMPTY, 5), 0);
    }

    private static void promise7CountsThatAreRoundedToNone() {
        Check.about(7, "If the sum is 0, its shares are 0");
        Glosspair aligner = decayed();
        aligner.takeBack(0);
        // For 7, S is 1000000 + 2 * 1000000 + 1: EMPTY counts 0 of a million there, 1 counts 333333.
        Check.equal("share(0, EMPTY, 7)", aligner.share(0, Glosspair.EMPTY, 7), 1);
        Check.equal("share(0, EMPTY, 5)", aligner.share(0, Glosspair.EMPTY, 5), 666667);
        aligner.round();
        Check.equal("share(0, EMPTY, 7) then", aligner.share(0, Glosspair.EMPTY, 7), 0);
        Check.equal("share(0, EMPTY, 5) then", aligner.share(0, Glosspair.EMPTY, 5), 0);
        Check.equal("share(0, 1, 7) then", aligner.share(0, 1, 7), 1000000);
        Check.equal("share(0, 0, 5) then", aligner.share(0, 0, 5), 0);
    }

    private static void promise7AWordAtSeveralPlaces() {
        Check.about(7, "a word at two places twice, adds its share times a million, divided by S, rounded down");
        Glosspair eight = new Glosspair();
        Made.pairOf(eight, new int[8], Made.words(5));
        Made.pairOf(eight, Made.words(0), Made.words(6));
        eight.begin();
        eight.round();
        // For 5, S is 9 * 500000: 0 counts 8 * 111111, EMPTY 111111; for 6 each counts 500000.
        Check.equal("share(0, 0, 5) of 8 places", eight.share(0, 0, 5), 640000);
        Check.equal("share(0, 0, 6) of 8 places", eight.share(0, 0, 6), 360000);
        Check.equal("share(0, EMPTY, 5) of 8 places", eight.share(0, Glosspair.EMPTY, 5), 181818);
        Glosspair five = new Glosspair();
        Made.pairOf(five, new int[5], Made.words(5));
        Made.pairOf(five, Made.words(0), Made.words(6));
        five.begin();
        five.round();
        // 0 counts 5 * 166666 = 833330, not 833333, for 5: each of them is rounded down by itself.
        Check.equal("share(0, 0, 5) of 5 places", five.share(0, 0, 5), 624999);
        Check.equal("share(0, 0, 6) of 5 places", five.share(0, 0, 6), 375001);
    }

    /** Alone on its side a word counts 500000 for each place, so its shares are as these numbers of places. */
    private static Glosspair places(int direction, int... many) {
        Glosspair aligner = new Glosspair();
        int drafted = 0;
        for (int other = 0; other < many.length; other++) {
            for (int time = 0; time < many[other]; time++) {
                aligner.put(1 - direction, other);
                drafted++;
                if (drafted == 8) {
                    aligner.put(direction, 3);
                    aligner.pair();
                    drafted = 0;
                }
            }
        }
        if (drafted > 0) {
            aligner.put(direction, 3);
            aligner.pair();
        }
        aligner.begin();
        aligner.round();
        return aligner;
    }

    private static void sharesAre(String what, int direction, Glosspair aligner, int... due) {
        for (int other = 0; other < 15; other++) {
            int share = other < due.length ? due[other] : 0;
            Check.equal(what + ", for " + other, aligner.share(direction, 3, other), share);
            Check.equal(what + ", for " + other + ", of EMPTY", aligner.share(direction, Glosspair.EMPTY, other), share);
        }
    }

    private static void promise7TheMostThatCanBeMissing() {
        Check.about(7, "what is missing to a million is given one by one to those with the greatest rests");
        for (int direction = 0; direction < 2; direction++) {
            // 14 words at 1 of 101 places: 9900 and a rest of 100; one at 87: 861386 and a rest of 14.
            sharesAre("14 are missing", direction,
                    places(direction, 1, 1, 1, 1, 1, 1, 1, 87, 1, 1, 1, 1, 1, 1, 1),
                    9901, 9901, 9901, 9901, 9901, 9901, 9901, 861386, 9901, 9901, 9901, 9901, 9901, 9901, 9901);
            sharesAre("none is missing", direction, places(direction, 1, 3, 4), 125000, 375000, 500000);
            sharesAre("one is missing, the last rest is the greatest", direction,
                    places(direction, 1, 1, 1, 4), 142857, 142857, 142857, 571429);
            sharesAre("one is missing, the first rest is the greatest", direction,
                    places(direction, 4, 1, 1, 1), 571429, 142857, 142857, 142857);
        }
    }

    private static void promise7AlikeRests() {
        Check.about(7, "of alike ones the lowest");
        for (int direction = 0; direction < 2; direction++) {
            // Of 6 places: each rest is 4 of 6, and 2 are missing.
            sharesAre("2 for 3", direction, places(direction, 4, 1, 1), 666667, 166667, 166666);
            sharesAre("2 for 3", direction, places(direction, 1, 1, 4), 166667, 166667, 666666);
            // Of 14 places: 11 leave a rest of 4, 1 a rest of 8, and 2 are missing.
            sharesAre("2 for 3 behind one", direction, places(direction, 11, 1, 1, 1), 785714, 71429, 71429, 71428);
            sharesAre("2 for 3 ahead of one", direction, places(direction, 1, 1, 1, 11), 71429, 71429, 71428, 785714);
        }
    }

    private static void promise7ThePairsThatAreThere() {
        Check.about(7, "in each pair that is there");
        Glosspair aligner = new Glosspair();
        Made.pairOf(aligner, Made.words(0), Made.words(5));
        Made.pairOf(aligner, Made.words(0), Made.words(6));
        aligner.begin();
        aligner.takeBack(1);
        Made.fill(aligner, 0, 0);
        Made.fill(aligner, 1, 6);
        // In the direction 0, 0 and EMPTY change for 5 and 6; in the direction 1, 6 loses its share.
        Check.equal("round()", aligner.round(), 4 + 1);
        Check.equal("share(0, 0, 5)", aligner.share(0, 0, 5), 1000000);
        Check.equal("share(0, 0, 6), of one taken back and a draft", aligner.share(0, 0, 6), 0);
        Check.equal("share(1, 6, 0), of one taken back and a draft", aligner.share(1, 6, 0), 0);
        Check.equal("share(1, 5, 0)", aligner.share(1, 5, 0), 1000000);
    }

    private static void promise7TheLastCall() {
        Check.about(7, "An object is used for at most 512 calls");
        Glosspair aligner = new Glosspair();
        Model model = new Model();
        int calls = 0;
        for (int number = 0; number < 20; number++) {
            for (int cell = 0; cell < 16; cell++) {
                int word = (number * 5 + cell * cell * 3 + cell) % 15;
                aligner.put(cell % 2, word);
                model.put(cell % 2, word);
                calls++;
            }
            Check.equal("pair()", aligner.pair(), model.pair());
            calls++;
        }
        Check.equal("begin()", aligner.begin(), model.begin());
        calls++;
        while (calls < 511) {
            Check.equal("round()", aligner.round(), model.round());
            calls++;
        }
        Check.equal("the 512th call", aligner.share(0, Glosspair.EMPTY, 4), model.share(0, Glosspair.EMPTY, 4));
    }

    private static void promise8TheAparts() {
        Check.about(8, "apart: 0, 1, 2, 3 for 3 and more, or 4 for EMPTY; throws if apart is out of range");
        Glosspair aligner = new Glosspair();
        Check.outOfBounds("-1", () -> aligner.weight(-1, 0));
        Check.equal("0, at first", aligner.weight(0, 5), 4);
        Check.equal("1, at first", aligner.weight(1, 6), 3);
        Check.equal("2, at first", aligner.weight(2, 7), 2);
        Check.equal("3, at first", aligner.weight(3, 8), 1);
        Check.equal("4, at first", aligner.weight(4, 9), 1);
        Check.outOfBounds("5", () -> aligner.weight(5, 0));
        for (int apart : Made.FAR) {
            Check.outOfBounds("apart " + apart, () -> aligner.weight(apart, 0));
        }
        for (int apart = 0; apart < 5; apart++) {
            Check.equal(apart + ", the one before", aligner.weight(apart, apart), 5 + apart);
        }
        for (int apart = 0; apart < 5; apart++) {
            Check.equal(apart + ", the one before", aligner.weight(apart, 0), apart);
        }
    }

    private static void promise8TheWeights() {
        Check.about(8, "weight: 0 to 9; throws if weight is out of range; returns the one before");
        Glosspair aligner = new Glosspair();
        for (int apart = 0; apart < 5; apart++) {
            int asked = apart;
            int first = aligner.weight(apart, 0);
            Check.illegalArgument("-1", () -> aligner.weight(asked, -1));
            Check.illegalArgument("10", () -> aligner.weight(asked, 10));
            for (int weight : Made.FAR) {
                Check.illegalArgument("weight " + weight, () -> aligner.weight(asked, weight));
            }
            Check.equal("0 is kept", aligner.weight(apart, 9), 0);
            Check.illegalArgument("10", () -> aligner.weight(asked, 10));
            Check.equal("9 is kept", aligner.weight(apart, 9), 9);
            Check.equal("9 again", aligner.weight(apart, first), 9);
        }
    }

    private static void promise8TheOutOfBoundsComesFirst() {
        Check.about(8, "the one that its throws clause names first is thrown");
        Glosspair aligner = new Glosspair();
        Check.outOfBounds("(-1, -1)", () -> aligner.weight(-1, -1));
        Check.outOfBounds("(-1, 10)", () -> aligner.weight(-1, 10));
        Check.outOfBounds("(5, -1)", () -> aligner.weight(5, -1));
        Check.outOfBounds("(5, 10)", () -> aligner.weight(5, 10));
        Check.illegalArgument("(4, 10)", () -> aligner.weight(4, 10));
        Check.illegalArgument("(0, -1)", () -> aligner.weight(0, -1));
    }

    private static void promise11TheDirections() {
        Check.about(11, "direction: 0 or 1; throws if there is no such direction");
        Glosspair aligner = new Glosspair();
        Made.pairOf(aligner, Made.words(0), Made.words(14));
        aligner.begin();
        Check.outOfBounds("-1", () -> aligner.share(-1, 0, 14));
        Check.equal("0", aligner.share(0, 0, 14), 1000000);
        Check.equal("0, the other way round", aligner.share(0, 14, 0), 0);
        Check.equal("1", aligner.share(1, 14, 0), 1000000);
        Check.equal("1, the other way round", aligner.share(1, 0, 14), 0);
        Check.outOfBounds("2", () -> aligner.share(2, 0, 14));
        for (int direction : Made.FAR) {
            Check.outOfBounds("direction " + direction, () -> aligner.share(direction, 0, 14));
        }
    }

    private static void promise11TheWords() {
        Check.about(11, "word: 0 to EMPTY; throws if there is no such word");
        Glosspair aligner = Made.widest();
        aligner.begin();
        for (int direction = 0; direction < 2; direction++) {
            int asked = direction;
            Check.outOfBounds("-1", () -> aligner.share(asked, -1, 0));
            Check.equal("0", aligner.share(direction, 0, 0), 66667);
            Check.equal("14", aligner.share(direction, 14, 0), 66667);
            Check.equal("EMPTY", aligner.share(direction, Glosspair.EMPTY, 0), 66667);
            Check.outOfBounds("16", () -> aligner.share(asked, 16, 0));
            for (int word : Made.FAR) {
                Check.outOfBounds("word " + word, () -> aligner.share(asked, word, 0));
            }
        }
    }

    private static void promise11TheOthers() {
        Check.about(11, "other: 0 to 14; throws if there is no such word");
        Glosspair aligner = Made.widest();
        aligner.begin();
        for (int direction = 0; direction < 2; direction++) {
            int asked = direction;
            Check.outOfBounds("-1", () -> aligner.share(asked, 1, -1));
            Check.outOfBounds("-1 for EMPTY", () -> aligner.share(asked, Glosspair.EMPTY, -1));
            Check.equal("0", aligner.share(direction, 1, 0), 66667);
            Check.equal("14", aligner.share(direction, 1, 14), 66666);
            Check.outOfBounds("EMPTY", () -> aligner.share(asked, 1, Glosspair.EMPTY));
            Check.outOfBounds("EMPTY for EMPTY", () -> aligner.share(asked, Glosspair.EMPTY, Glosspair.EMPTY));
            for (int other : Made.FAR) {
                Check.outOfBounds("other " + other, () -> aligner.share(asked, 1, other));
            }
        }
    }
}
