/** Makes what the tests ask. None of these takes more than 200 calls, so that 300 are left. */
final class Made {
    /** The last value that is allowed and the first that is not stand in the tests; these are farther off. */
    static final int[] FAR = {Integer.MIN_VALUE, Integer.MIN_VALUE + 1, -2, 1000000, Integer.MAX_VALUE};

    /** A word that none of these teaches, so that it has no share and is linked to none. */
    static final int FILLER = 14;

    private Made() {
    }

    static int[] words(int... words) {
        return words;
    }

    static void fill(Glosspair aligner, int side, int... words) {
        for (int word : words) {
            aligner.put(side, word);
        }
    }

    /** Makes a pair of these sentences; tells its number. */
    static int pairOf(Glosspair aligner, int[] first, int[] second) {
        fill(aligner, 0, first);
        fill(aligner, 1, second);
        return aligner.pair();
    }

    static void weigh(Glosspair aligner, int... weights) {
        for (int apart = 0; apart < weights.length; apart++) {
            aligner.weight(apart, weights[apart]);
        }
    }

    static void rounds(Glosspair aligner, int many) {
        for (int round = 0; round < many; round++) {
            aligner.round();
        }
    }

    /** A pair of alike shares, so that links go by weights alone. */
    static Glosspair alike(int first, int second, int... weights) {
        Glosspair aligner = new Glosspair();
        pairOf(aligner, new int[first], new int[second]);
        aligner.begin();
        weigh(aligner, weights);
        return aligner;
    }

    /** Pairs by which each word of a side stands together with each one of the other side. */
    static Glosspair widest() {
        Glosspair aligner = new Glosspair();
        int[] low = words(0, 1, 2, 3, 4, 5, 6, 7);
        int[] high = words(8, 9, 10, 11, 12, 13, 14);
        pairOf(aligner, low, low);
        pairOf(aligner, low, high);
        pairOf(aligner, high, low);
        pairOf(aligner, high, high);
        return aligner;
    }

    /** As many pairs as can be, of one word each. */
    static Glosspair twenty() {
        Glosspair aligner = new Glosspair();
        for (int number = 0; number < 20; number++) {
            pairOf(aligner, words(number % 15), words((number + 1) % 15));
        }
        return aligner;
    }

    /**
     * Knows two kinds of links, however a pair that is made then is laid out: 0 and 0 are linked in
     * both directions, 1 and 1 in the direction 0 alone. On either side 10 words stand in pairs, so
     * EMPTY has 100000 for each, which weighs 900000. A million for a word weighs more: so 0 has for
     * 0, and 1 for 1 in the direction 0. In the direction 1, 1 stands together with 1, 8 and 9, and
     * its 333334 for 1 weigh less, even twice. Places that are not apart weigh twice, so that of
     * alike words that one is linked.
     */
    static Glosspair oneSided() {
        Glosspair aligner = new Glosspair();
        pairOf(aligner, words(0), words(0));
        pairOf(aligner, words(1), words(1));
        pairOf(aligner, words(8), words(1));
        pairOf(aligner, words(9), words(1, 9));
        pairOf(aligner, words(2, 3, 4, 5, 6, 7), words(2, 3, 4, 5, 6, 7, 8, 9));
        aligner.begin();
        weigh(aligner, 2, 1, 1, 1, 9);
        return aligner;
    }

    /** A sentence of 8 places, with a word at one of them, and fillers elsewhere. */
    static int[] at(int place, int word) {
        int[] sentence = new int[8];
        java.util.Arrays.fill(sentence, FILLER);
        sentence[place] = word;
        return sentence;
    }

    static int[] at(int place, int word, int otherPlace, int otherWord) {
        int[] sentence = at(place, word);
        sentence[otherPlace] = otherWord;
        return sentence;
    }

    /** A pair of 8 places on either side, of which just these are joined: twice {place, other}. */
    static Glosspair joinedAt(int place, int other, int secondPlace, int secondOther) {
        Glosspair aligner = new Glosspair();
        pairOf(aligner, words(0), words(0));
        pairOf(aligner, words(1), words(1));
        aligner.begin();
        weigh(aligner, 1, 1, 1, 1, 0);
        pairOf(aligner, at(place, 0, secondPlace, 1), at(other, 0, secondOther, 1));
        aligner.takeBack(0);
        aligner.takeBack(1);
        return aligner;
    }

    /** A pair of so many places on either side, of which just one place each is joined. */
    static Glosspair joinedAtOne(int first, int place, int second, int other) {
        Glosspair aligner = new Glosspair();
        pairOf(aligner, words(0), words(0));
        aligner.begin();
        aligner.takeBack(0);
        int[] firstWords = java.util.Arrays.copyOf(at(place, 0), first);
        int[] secondWords = java.util.Arrays.copyOf(at(other, 0), second);
        Made.weigh(aligner, 1, 1, 1, 1, 0);
        pairOf(aligner, firstWords, secondWords);
        return aligner;
    }
}
