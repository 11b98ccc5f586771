/** The edges of promises 17 and 18: total, totalAnew. */
final class EdgesOfTotalsTest {
    private static String sentence = "";

    public static void main(String[] args) {
        promise17And18ThePairs();
        promise17And18FourAndFiveWords();
        promise17And18TheOutOfBoundsComesFirst();
        promise17And18WithoutShares();
        promise17And18RoundedDownByItself();
        promise17And18TheGreatest();
        promise17And18EachPlaceByItself();
        promise17And18TheDirection();
        Check.end();
    }

    /** Both promises tell the same, so each of their sentences is asked of both. */
    private static void about(String said) {
        sentence = said;
    }

    private static void totalsAre(String what, Glosspair aligner, int pair, long due) {
        Check.about(17, sentence);
        Check.equal("total, " + what, aligner.total(pair), due);
        Check.about(18, sentence);
        Check.equal("totalAnew, " + what, aligner.totalAnew(pair), due);
    }

    private static void outOfBounds(String what, Glosspair aligner, int pair) {
        Check.about(17, sentence);
        Check.outOfBounds("total, " + what, () -> aligner.total(pair));
        Check.about(18, sentence);
        Check.outOfBounds("totalAnew, " + what, () -> aligner.totalAnew(pair));
    }

    private static void illegalState(String what, Glosspair aligner, int pair) {
        Check.about(17, sentence);
        Check.illegalState("total, " + what, () -> aligner.total(pair));
        Check.about(18, sentence);
        Check.illegalState("totalAnew, " + what, () -> aligner.totalAnew(pair));
    }

    private static void promise17And18ThePairs() {
        about("throws if there is no such pair, or it is not there any more");
        Glosspair aligner = Made.twenty();
        aligner.begin();
        outOfBounds("-1", aligner, -1);
        // The word alone has a million, EMPTY 66667 or 66666.
        totalsAre("0", aligner, 0, 1066);
        totalsAre("19", aligner, 19, 1066);
        outOfBounds("20", aligner, 20);
        for (int number : Made.FAR) {
            outOfBounds("pair " + number, aligner, number);
        }
        aligner.takeBack(19);
        outOfBounds("19, taken back", aligner, 19);
        totalsAre("18", aligner, 18, 1066);
        outOfBounds("0 of none", new Glosspair(), 0);
    }

    private static void promise17And18FourAndFiveWords() {
        about("IllegalStateException if its sentence of the side 1 has more than 4 words");
        for (int first = 1; first <= 8; first++) {
            Glosspair aligner = new Glosspair();
            for (int second = 1; second <= 8; second++) {
                Made.pairOf(aligner, new int[first], new int[second]);
            }
            aligner.begin();
            long due = 1;
            for (int second = 1; second <= 8; second++) {
                due *= (first + 1) * 1000L;
                String what = first + " and " + second + " words";
                if (second <= 4) {
                    totalsAre(what, aligner, second - 1, due);
                } else {
                    illegalState(what, aligner, second - 1);
                }
            }
        }
    }

    private static void promise17And18TheOutOfBoundsComesFirst() {
        about("the one that its throws clause names first is thrown");
        Glosspair aligner = new Glosspair();
        Made.pairOf(aligner, Made.words(1), new int[5]);
        Made.pairOf(aligner, Made.words(1), new int[8]);
        illegalState("5 words", aligner, 0);
        illegalState("8 words", aligner, 1);
        aligner.takeBack(0);
        outOfBounds("5 words, taken back", aligner, 0);
        illegalState("8 words", aligner, 1);
        outOfBounds("none", aligner, 2);
    }

    private static void promise17And18WithoutShares() {
        about("the product of sums, with a sum of 0");
        Glosspair aligner = new Glosspair();
        Made.pairOf(aligner, Made.words(0), Made.words(5));
        totalsAre("ahead of begin()", aligner, 0, 0);
        aligner.begin();
        totalsAre("behind it", aligner, 0, 2000);
        Made.pairOf(aligner, Made.words(0), Made.words(5, 6));
        totalsAre("with a place for which none has a share", aligner, 1, 0);
        Made.pairOf(aligner, Made.words(3), Made.words(5));
        totalsAre("EMPTY's share alone", aligner, 2, 1000);
        Made.pairOf(aligner, new int[8], new int[4]);
        totalsAre("without any share for 0", aligner, 3, 0);
    }

    private static void promise17And18RoundedDownByItself() {
        about("each share by itself divided by 1000, rounded down");
        Glosspair thirds = new Glosspair();
        Made.pairOf(thirds, Made.words(0), Made.words(5, 6, 6));
        thirds.begin();
        thirds.round();
        Made.pairOf(thirds, Made.words(0), Made.words(5));
        Made.pairOf(thirds, Made.words(0), Made.words(6));
        // 333333 is 333, and 666667 is 666.
        totalsAre("two times 333333", thirds, 1, 666);
        totalsAre("two times 666667", thirds, 2, 1332);
        Glosspair below = new Glosspair();
        Made.pairOf(below, Made.words(0, 1), Made.words(7));
        Made.pairOf(below, Made.words(0, 0), Made.words(6, 6, 6));
        Made.pairOf(below, Made.words(1, 1, 0), Made.words(5));
        below.begin();
        Made.rounds(below, 5);
        Check.equal("share(0, 0, 5)", below.share(0, 0, 5), 999);
        Check.equal("share(0, EMPTY, 5)", below.share(0, Glosspair.EMPTY, 5), 20382);
        Made.pairOf(below, Made.words(0, 0), Made.words(5));
        totalsAre("999 is 0", below, 3, 20);
        Glosspair just = new Glosspair();
        Made.pairOf(just, Made.words(1, 0, 0), Made.words(7, 7));
        Made.pairOf(just, Made.words(0), Made.words(5, 7));
        Made.pairOf(just, Made.words(2, 1, 1), Made.words(6));
        just.begin();
        Made.rounds(just, 5);
        Check.equal("share(0, EMPTY, 6)", just.share(0, Glosspair.EMPTY, 6), 1000);
        Check.equal("share(0, 0, 6)", just.share(0, 0, 6), 0);
        Made.pairOf(just, Made.words(0), Made.words(6));
        totalsAre("1000 is 1", just, 3, 1);
    }

    private static void promise17And18TheGreatest() {
        about("the product, over all places of the side 1");
        Glosspair aligner = Made.alike(8, 4);
        totalsAre("of 8 places and EMPTY, a million each, for 4 places", aligner, 0, 6561000000000000L);
    }

    private static void promise17And18EachPlaceByItself() {
        about("the product, over all places of the side 1, of the sum, over EMPTY and all places of the side 0");
        Glosspair aligner = new Glosspair();
        Made.pairOf(aligner, Made.words(0), Made.words(5));
        Made.pairOf(aligner, Made.words(1), Made.words(5, 6));
        aligner.begin();
        // For 5: 0 has a million, 1 and EMPTY have the half; for 6, 0 has nothing.
        Made.pairOf(aligner, Made.words(0, 1), Made.words(5, 6, 5, 6));
        Made.pairOf(aligner, Made.words(1, 1, 1), Made.words(6, 5));
        Made.pairOf(aligner, Made.words(0, 0), Made.words(6, 6, 6, 5));
        totalsAre("of 2 and 4 places", aligner, 2, 2000L * 1000L * 2000L * 1000L);
        totalsAre("of 3 and 2 places", aligner, 3, 2000L * 2000L);
        totalsAre("of 2 and 4 places, three alike", aligner, 4, 500L * 500L * 500L * 2500L);
    }

    private static void promise17And18TheDirection() {
        about("how likely a pair is in the direction 0, over EMPTY and all places of the side 0");
        Glosspair aligner = new Glosspair();
        Made.pairOf(aligner, Made.words(1, 2, 2), Made.words(3, 4));
        Made.pairOf(aligner, Made.words(5), Made.words(4));
        aligner.begin();
        // 1, 2 and EMPTY have 500000 for 3 and 4; 5 has a million for 4.
        totalsAre("of the first", aligner, 0, 2000L * 2000L);
        totalsAre("of the second", aligner, 1, 1500);
    }
}
