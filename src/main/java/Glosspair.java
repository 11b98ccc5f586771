import java.util.Arrays;

/**
 * An aligner of words in pairs of sentences: shares of words in millionths that are learned by
 * rounds in both directions, with an empty word on either side, links by shares and by how far
 * places are apart, links that are joined by growing from those that both directions tell, phrases
 * that are cut out where no link leaves, fertilities, and how likely a pair is, by all ways to
 * align it.
 */
public final class Glosspair {
    /** None. */
    public static final int NONE = -1;

    /** The empty word. */
    public static final int EMPTY = 15;

    private static final int SIDES = 2;
    private static final int WORDS = 15;
    private static final int PLACES = 8;
    private static final int PAIRS = 20;
    private static final int MILLION = 1000000;
    private static final int THOUSAND = 1000;

    private static final int FAR_APART = 3;
    private static final int APART_OF_EMPTY = 4;
    private static final int HIGHEST_WEIGHT = 9;
    private static final int[] FIRST_WEIGHTS = {4, 3, 2, 1, 1};

    private static final int LONGEST_SPAN = 4;
    private static final int ENDS_OF_PHRASE = 4;

    private static final int LIKELY_PLACES = 4;
    private static final int ANSWERERS = PLACES + 1;

    private final Corpus corpus;
    private final Linker linker;
    private final Alignment alignment;
    private final PhraseSearch search;
    private final Likelihood likelihood;
    private SentencePair drafts;

    /** Creates an aligner without pairs; both drafts are empty. */
    public Glosspair() {
        corpus = new Corpus();
        linker = new Linker();
        alignment = new Alignment();
        search = new PhraseSearch();
        likelihood = new Likelihood();
        drafts = new SentencePair();
    }

    // ---- pairs

    /**
     * Puts a word behind a draft.
     *
     * @param side 0 or 1
     * @param word 0 to 14
     * @return how many it has then
     * @throws IndexOutOfBoundsException if there is no such side or word
     * @throws IllegalStateException if it has 8
     */
    public int put(int side, int word) throws IndexOutOfBoundsException, IllegalStateException {
        if (!isSide(side) || !isWord(word)) {
            throw new IndexOutOfBoundsException("no such side or word");
        }
        Sentence draft = drafts.ofSide(side);
        if (draft.isFull()) {
            throw new IllegalStateException("the draft is full");
        }
        draft.append(word);
        return draft.length();
    }

    /**
     * Empties both drafts.
     *
     * @return how many words they had, together
     */
    public int wipe() {
        int had = drafts.ofSide(0).length() + drafts.ofSide(1).length();
        drafts.ofSide(0).clear();
        drafts.ofSide(1).clear();
        return had;
    }

    /**
     * Makes a pair of both drafts, which are empty then.
     *
     * @return its number
     * @throws IllegalStateException if one of them is empty, or there were 20
     */
    public int pair() throws IllegalStateException {
        if (drafts.ofSide(0).length() == 0 || drafts.ofSide(1).length() == 0) {
            throw new IllegalStateException("a draft is empty");
        }
        if (corpus.isFull()) {
            throw new IllegalStateException("there were as many pairs as can be");
        }
        int number = corpus.add(drafts);
        drafts = new SentencePair();
        return number;
    }

    /**
     * Takes a pair back.
     *
     * @param pair the number of a pair
     * @return how many are there then
     * @throws IndexOutOfBoundsException if there is no such pair, or it is not there any more
     */
    public int takeBack(int pair) throws IndexOutOfBoundsException {
        SentencePair asked = pairThatIsThere(pair);
        corpus.remove(asked);
        return corpus.size();
    }

    // ---- shares, weights

    /**
     * Begins.
     *
     * @return how many shares are above 0 then, in both directions, together
     */
    public int begin() {
        return linker.lexicon(0).start(corpus) + linker.lexicon(1).start(corpus);
    }

    /**
     * Runs a round.
     *
     * @return how many shares are other ones by it, in both directions, together
     */
    public int round() {
        return linker.lexicon(0).learn(corpus) + linker.lexicon(1).learn(corpus);
    }

    /**
     * Sets a weight.
     *
     * @param apart 0, 1, 2, 3 for 3 and more, or 4 for EMPTY
     * @param weight 0 to 9
     * @return the one before
     * @throws IndexOutOfBoundsException if apart is out of range
     * @throws IllegalArgumentException if weight is out of range
     */
    public int weight(int apart, int weight)
            throws IndexOutOfBoundsException, IllegalArgumentException {
        if (apart < 0 || apart > APART_OF_EMPTY) {
            throw new IndexOutOfBoundsException("apart is out of range");
        }
        if (weight < 0 || weight > HIGHEST_WEIGHT) {
            throw new IllegalArgumentException("weight is out of range");
        }
        return linker.setWeight(apart, weight);
    }

    // ---- what is asked

    /** Returns how many pairs are there. */
    public int pairs() {
        return corpus.size();
    }

    /**
     * Returns a word of a pair.
     *
     * @param pair the number of a pair
     * @param side 0 or 1
     * @param place from 0 on
     * @return the word; NONE, if there are not so many
     * @throws IndexOutOfBoundsException if there is no such pair, or it is not there any more, no
     *     such side, or place is below 0
     */
    public int word(int pair, int side, int place) throws IndexOutOfBoundsException {
        SentencePair asked = pairThatIsThere(pair);
        if (!isSide(side) || place < 0) {
            throw new IndexOutOfBoundsException("no such side, or place is below 0");
        }
        return asked.ofSide(side).at(place);
    }

    /**
     * Returns a share.
     *
     * @param direction 0 or 1
     * @param word 0 to EMPTY: the word that answers
     * @param other 0 to 14: the word of the other side
     * @return the share
     * @throws IndexOutOfBoundsException if there is no such direction or word, of either
     */
    public int share(int direction, int word, int other) throws IndexOutOfBoundsException {
        if (!isSide(direction) || !(isWord(word) || word == EMPTY) || !isWord(other)) {
            throw new IndexOutOfBoundsException("no such direction or word");
        }
        return linker.lexicon(direction).shareOf(word, other);
    }

    /**
     * Returns the link of a place in a direction.
     *
     * @param direction 0 or 1
     * @param pair the number of a pair
     * @param place a place of the sentence for which is answered
     * @return the place of the sentence that answers; NONE without
     * @throws IndexOutOfBoundsException if there is no such direction, pair or place, or the pair
     *     is not there any more
     */
    public int link(int direction, int pair, int place) throws IndexOutOfBoundsException {
        SentencePair asked = pairThatIsThere(pair);
        if (!isSide(direction) || !asked.ofSide(1 - direction).has(place)) {
            throw new IndexOutOfBoundsException("no such direction or place");
        }
        return linker.answerFor(direction, asked, place);
    }

    /**
     * Tells whether two places are joined.
     *
     * @param pair the number of a pair
     * @param place a place of the side 0
     * @param other a place of the side 1
     * @return whether they are
     * @throws IndexOutOfBoundsException if there is no such pair or place, of either, or the pair
     *     is not there any more
     */
    public boolean isJoined(int pair, int place, int other) throws IndexOutOfBoundsException {
        SentencePair asked = pairThatIsThere(pair);
        if (!asked.ofSide(0).has(place) || !asked.ofSide(1).has(other)) {
            throw new IndexOutOfBoundsException("no such place");
        }
        alignment.align(asked, linker);
        return alignment.hasJoined(place, other);
    }

    /**
     * Returns how many phrases a pair has.
     *
     * @param pair the number of a pair
     * @return how many there are
     * @throws IndexOutOfBoundsException if there is no such pair, or it is not there any more
     */
    public int phrases(int pair) throws IndexOutOfBoundsException {
        SentencePair asked = pairThatIsThere(pair);
        alignment.align(asked, linker);
        search.seek(alignment, NONE);
        return search.count();
    }

    /**
     * Tells of a phrase.
     *
     * @param pair the number of a pair
     * @param phrase from 0 on, in order
     * @param what 0 the first place of the side 0, 1 the last one, 2 the first place of the side 1,
     *     3 the last one
     * @return as told
     * @throws IndexOutOfBoundsException if there is no such pair or phrase, or the pair is not
     *     there any more
     * @throws IllegalArgumentException if what is out of range
     */
    public int phrase(int pair, int phrase, int what)
            throws IndexOutOfBoundsException, IllegalArgumentException {
        SentencePair asked = pairThatIsThere(pair);
        alignment.align(asked, linker);
        search.seek(alignment, phrase);
        if (phrase < 0 || phrase >= search.count()) {
            throw new IndexOutOfBoundsException("no such phrase");
        }
        if (what < 0 || what >= ENDS_OF_PHRASE) {
            throw new IllegalArgumentException("what is out of range");
        }
        return search.endOfFound(what);
    }

    /**
     * Counts places with a word of the side 0, and a fertility.
     *
     * @param word 0 to 14
     * @param fertility 0 to 8
     * @return how many there are, in all pairs that are there
     * @throws IndexOutOfBoundsException if there is no such word
     * @throws IllegalArgumentException if fertility is out of range
     */
    public int fertility(int word, int fertility)
            throws IndexOutOfBoundsException, IllegalArgumentException {
        if (!isWord(word)) {
            throw new IndexOutOfBoundsException("no such word");
        }
        if (fertility < 0 || fertility > PLACES) {
            throw new IllegalArgumentException("fertility is out of range");
        }
        int many = 0;
        for (int number = 0; number < corpus.made(); number++) {
            SentencePair pair = corpus.find(number);
            if (pair != null) {
                alignment.align(pair, linker);
                many += placesWith(pair.ofSide(0), word, fertility);
            }
        }
        return many;
    }

    /**
     * Returns how likely a pair is in the direction 0: the product, over all places of the side 1,
     * of the sum, over EMPTY and all places of the side 0, of their shares for the word there, each
     * share by itself divided by 1000, rounded down.
     *
     * @param pair the number of a pair
     * @return how likely it is
     * @throws IndexOutOfBoundsException if there is no such pair, or it is not there any more
     * @throws IllegalStateException if its sentence of the side 1 has more than 4 words
     */
    public long total(int pair) throws IndexOutOfBoundsException, IllegalStateException {
        likelihood.consider(shortPair(pair), linker.lexicon(0));
        return likelihood.productOfSums();
    }

    /**
     * Returns the same, as the sum, over all ways to give each place of the side 1 a place of the
     * side 0, or EMPTY, of the products of these shares.
     *
     * @param pair the number of a pair
     * @return how likely it is
     * @throws IndexOutOfBoundsException if there is no such pair, or it is not there any more
     * @throws IllegalStateException if its sentence of the side 1 has more than 4 words
     */
    public long totalAnew(int pair) throws IndexOutOfBoundsException, IllegalStateException {
        likelihood.consider(shortPair(pair), linker.lexicon(0));
        return likelihood.sumOfProducts();
    }

    // ---- what the calls share

    private static boolean isSide(int side) {
        return side >= 0 && side < SIDES;
    }

    private static boolean isWord(int word) {
        return word >= 0 && word < WORDS;
    }

    private SentencePair pairThatIsThere(int number) throws IndexOutOfBoundsException {
        SentencePair pair = corpus.find(number);
        if (pair == null) {
            throw new IndexOutOfBoundsException("no such pair, or it is not there any more");
        }
        return pair;
    }

    private SentencePair shortPair(int number)
            throws IndexOutOfBoundsException, IllegalStateException {
        SentencePair pair = pairThatIsThere(number);
        if (pair.ofSide(1).length() > LIKELY_PLACES) {
            throw new IllegalStateException("the sentence of the side 1 is too long");
        }
        return pair;
    }

    /** Reads the alignment, which must be that of the sentence's pair. */
    private int placesWith(Sentence sentence, int word, int fertility) {
        int many = 0;
        for (int place = 0; place < sentence.length(); place++) {
            if (sentence.at(place) == word && alignment.joinedOf(place) == fertility) {
                many++;
            }
        }
        return many;
    }

    /** Up to 8 words, without the EMPTY ahead of them, which stands in no place. */
    private static final class Sentence {
        private final int[] words = new int[PLACES];
        private int length;

        int length() {
            return length;
        }

        boolean isFull() {
            return length >= PLACES;
        }

        boolean has(int place) {
            return place >= 0 && place < length;
        }

        int at(int place) {
            return has(place) && place < words.length ? words[place] : NONE;
        }

        void append(int word) {
            if (length >= 0 && length < words.length) {
                words[length] = word;
                length++;
            }
        }

        void clear() {
            length = 0;
        }
    }

    /** A sentence of each side: the drafts at first, a pair of the corpus once it is added. */
    private static final class SentencePair {
        private final Sentence first = new Sentence();
        private final Sentence second = new Sentence();
        private boolean there;

        Sentence ofSide(int side) {
            return side == 0 ? first : second;
        }

        boolean isThere() {
            return there;
        }

        void setThere(boolean isThere) {
            there = isThere;
        }
    }

    /** All pairs that ever were; one that is taken back keeps its number for itself. */
    private static final class Corpus {
        private final SentencePair[] rows = new SentencePair[PAIRS];
        private int made;
        private int size;

        int made() {
            return made;
        }

        int size() {
            return size;
        }

        boolean isFull() {
            return made >= PAIRS;
        }

        int add(SentencePair pair) {
            if (pair == null || made < 0 || made >= rows.length) {
                return NONE;
            }
            int number = made;
            rows[number] = pair;
            pair.setThere(true);
            made++;
            size++;
            return number;
        }

        void remove(SentencePair pair) {
            if (pair != null && pair.isThere()) {
                pair.setThere(false);
                size--;
            }
        }

        /** Answers null for a pair that never was, and for one that was taken back. */
        SentencePair find(int number) {
            if (number < 0 || number >= made || number >= rows.length) {
                return null;
            }
            SentencePair pair = rows[number];
            return pair != null && pair.isThere() ? pair : null;
        }
    }

    /** The shares of one direction. */
    private static final class Lexicon {
        private final int answeringSide;
        private final int[] shares = new int[(WORDS + 1) * WORDS];
        private final long[] counts = new long[(WORDS + 1) * WORDS];
        private final int[] fresh = new int[WORDS];
        private final long[] rests = new long[WORDS];

        Lexicon(int answeringSide) {
            this.answeringSide = answeringSide;
        }

        int shareOf(int word, int other) {
            int cell = cellOf(word, other);
            return cell >= 0 && cell < shares.length ? shares[cell] : 0;
        }

        /** Tells how many shares are above 0 then. */
        int start(Corpus corpus) {
            countMeetings(corpus);
            apportionAll();
            return sharesAboveZero();
        }

        /** Tells how many shares are other ones then. */
        int learn(Corpus corpus) {
            countAnswers(corpus);
            return apportionAll();
        }

        private static int cellOf(int word, int other) {
            boolean isKnown = word >= 0 && word <= EMPTY && other >= 0 && other < WORDS;
            return isKnown ? word * WORDS + other : NONE;
        }

        /**
         * Counts 1 for each two words that stand together: from alike counts the apportioning gives
         * alike shares, and as all rests are alike too, one more to each of the lowest.
         */
        private void countMeetings(Corpus corpus) {
            Arrays.fill(counts, 0L);
            for (int number = 0; number < corpus.made(); number++) {
                SentencePair pair = corpus.find(number);
                if (pair != null) {
                    meetAll(pair.ofSide(answeringSide), pair.ofSide(1 - answeringSide));
                }
            }
        }

        private void meetAll(Sentence answering, Sentence asking) {
            for (int place = 0; place < asking.length(); place++) {
                int other = asking.at(place);
                meet(EMPTY, other);
                for (int answer = 0; answer < answering.length(); answer++) {
                    meet(answering.at(answer), other);
                }
            }
        }

        private void meet(int word, int other) {
            int cell = cellOf(word, other);
            if (cell >= 0 && cell < counts.length) {
                counts[cell] = 1L;
            }
        }

        private void countAnswers(Corpus corpus) {
            Arrays.fill(counts, 0L);
            for (int number = 0; number < corpus.made(); number++) {
                SentencePair pair = corpus.find(number);
                if (pair != null) {
                    answerAll(pair.ofSide(answeringSide), pair.ofSide(1 - answeringSide));
                }
            }
        }

        private void answerAll(Sentence answering, Sentence asking) {
            for (int place = 0; place < asking.length(); place++) {
                int other = asking.at(place);
                long sum = sumOfShares(answering, other);
                addAnswer(EMPTY, other, sum);
                for (int answer = 0; answer < answering.length(); answer++) {
                    addAnswer(answering.at(answer), other, sum);
                }
            }
        }

        private long sumOfShares(Sentence answering, int other) {
            long sum = shareOf(EMPTY, other);
            for (int answer = 0; answer < answering.length(); answer++) {
                sum += shareOf(answering.at(answer), other);
            }
            return sum;
        }

        private void addAnswer(int word, int other, long sum) {
            int cell = cellOf(word, other);
            if (sum > 0 && cell >= 0 && cell < counts.length) {
                counts[cell] += (long) shareOf(word, other) * MILLION / sum;
            }
        }

        private int apportionAll() {
            int changed = 0;
            for (int word = 0; word <= EMPTY; word++) {
                apportion(word);
                changed += replaceShares(word);
            }
            return changed;
        }

        /** Leaves the shares themselves as they are, so that the change can still be counted. */
        private void apportion(int word) {
            Arrays.fill(fresh, 0);
            long sum = 0;
            for (int other = 0; other < WORDS; other++) {
                sum += countOf(word, other);
            }
            if (sum > 0) {
                giveRests(giveWholes(word, sum));
            }
        }

        private long countOf(int word, int other) {
            int cell = cellOf(word, other);
            return cell >= 0 && cell < counts.length ? counts[cell] : 0L;
        }

        /** Tells what is missing to a million then. */
        private int giveWholes(int word, long sum) {
            int missing = MILLION;
            for (int other = 0; other < fresh.length && other < rests.length; other++) {
                long scaled = countOf(word, other) * MILLION;
                fresh[other] = sum > 0 ? (int) (scaled / sum) : 0;
                rests[other] = sum > 0 ? scaled % sum : 0L;
                missing -= fresh[other];
            }
            return missing;
        }

        /** No rest is reached twice, as there are always more rests above 0 than are missing. */
        private void giveRests(int missing) {
            for (int given = 0; given < missing && given < WORDS; given++) {
                int other = placeOfGreatestRest();
                if (other >= 0 && other < fresh.length && other < rests.length) {
                    fresh[other]++;
                    rests[other] = -1L;
                }
            }
        }

        private int placeOfGreatestRest() {
            int best = 0;
            long greatest = -1L;
            for (int other = 0; other < rests.length; other++) {
                if (rests[other] > greatest) {
                    greatest = rests[other];
                    best = other;
                }
            }
            return best;
        }

        private int replaceShares(int word) {
            int changed = 0;
            for (int other = 0; other < fresh.length; other++) {
                int cell = cellOf(word, other);
                if (cell >= 0 && cell < shares.length && shares[cell] != fresh[other]) {
                    shares[cell] = fresh[other];
                    changed++;
                }
            }
            return changed;
        }

        private int sharesAboveZero() {
            int many = 0;
            for (int cell = 0; cell < shares.length; cell++) {
                if (shares[cell] > 0) {
                    many++;
                }
            }
            return many;
        }
    }

    /** What a share counts for a link, by how far the places are apart. */
    private static final class Weights {
        private final int[] values = FIRST_WEIGHTS.clone();

        int at(int apart) {
            return apart >= 0 && apart < values.length ? values[apart] : 0;
        }

        /** Tells the one before. */
        int replace(int apart, int value) {
            int before = at(apart);
            if (apart >= 0 && apart < values.length) {
                values[apart] = value;
            }
            return before;
        }

        int between(int place, int other) {
            return at(Math.min(Math.abs(place - other), FAR_APART));
        }

        int ofEmpty() {
            return at(APART_OF_EMPTY);
        }
    }

    /** Holds what links go by, and links places by it as it is when it is asked. */
    private static final class Linker {
        private final Lexicon forward = new Lexicon(0);
        private final Lexicon backward = new Lexicon(1);
        private final Weights weights = new Weights();

        Lexicon lexicon(int direction) {
            return direction == 0 ? forward : backward;
        }

        /** Tells the one before. */
        int setWeight(int apart, int value) {
            return weights.replace(apart, value);
        }

        /** Answers the place of the side that answers, for a place of the other side, or NONE. */
        int answerFor(int direction, SentencePair pair, int place) {
            Lexicon lexicon = lexicon(direction);
            Sentence answering = pair.ofSide(direction);
            int other = pair.ofSide(1 - direction).at(place);
            int best = NONE;
            int greatest = 0;
            for (int answer = 0; answer < answering.length(); answer++) {
                int share = lexicon.shareOf(answering.at(answer), other);
                int worth = share * weights.between(answer, place);
                if (worth > greatest) {
                    greatest = worth;
                    best = answer;
                }
            }
            int worthOfEmpty = lexicon.shareOf(EMPTY, other) * weights.ofEmpty();
            return worthOfEmpty > greatest ? NONE : best;
        }
    }

    /**
     * The joined links of the pair that was aligned last. For each place of the side 0 the places
     * of the side 1 are the bits of a number, so that a span of them is told by one comparison.
     */
    private static final class Alignment {
        private final int[] both = new int[PLACES];
        private final int[] either = new int[PLACES];
        private final int[] joined = new int[PLACES];
        private int firstLength;
        private int secondLength;

        int firstLength() {
            return firstLength;
        }

        int secondLength() {
            return secondLength;
        }

        int joinedBits(int place) {
            return bitsAt(joined, place);
        }

        int joinedOf(int place) {
            return Integer.bitCount(joinedBits(place));
        }

        boolean hasJoined(int place, int other) {
            return (joinedBits(place) & bitOf(other)) != 0;
        }

        void align(SentencePair pair, Linker linker) {
            firstLength = pair.ofSide(0).length();
            secondLength = pair.ofSide(1).length();
            takeLinks(pair, linker);
            for (int place = 0; place < joined.length; place++) {
                joined[place] = bitsAt(both, place);
            }
            // Each sweep but the last one joins a link, so there are never more than this.
            boolean grows = true;
            for (int sweep = 0; grows && sweep <= PLACES * PLACES; sweep++) {
                grows = growOnce();
            }
        }

        private void takeLinks(SentencePair pair, Linker linker) {
            Arrays.fill(both, 0);
            Arrays.fill(either, 0);
            for (int other = 0; other < secondLength; other++) {
                takeLink(linker.answerFor(0, pair, other), other);
            }
            for (int place = 0; place < firstLength; place++) {
                takeLink(place, linker.answerFor(1, pair, place));
            }
        }

        /** A direction tells each link once, so one that comes twice is told by both. */
        private void takeLink(int place, int other) {
            if (place >= 0 && place < both.length && place < either.length) {
                both[place] |= either[place] & bitOf(other);
                either[place] |= bitOf(other);
            }
        }

        private boolean growOnce() {
            boolean grew = false;
            for (int place = 0; place < firstLength; place++) {
                for (int other = 0; other < secondLength; other++) {
                    if (isToJoin(place, other)) {
                        join(place, other);
                        grew = true;
                    }
                }
            }
            return grew;
        }

        private boolean isToJoin(int place, int other) {
            boolean isTold = (bitsAt(either, place) & bitOf(other)) != 0;
            return isTold
                    && !hasJoined(place, other)
                    && (joinedBits(place) == 0 || isFree(other))
                    && isBesideJoined(place, other);
        }

        private boolean isFree(int other) {
            int taken = 0;
            for (int place = 0; place < firstLength; place++) {
                taken |= joinedBits(place);
            }
            return (taken & bitOf(other)) == 0;
        }

        private boolean isBesideJoined(int place, int other) {
            int near = bitOf(other - 1) | bitOf(other) | bitOf(other + 1);
            int around = joinedBits(place - 1) | joinedBits(place) | joinedBits(place + 1);
            return (around & near) != 0;
        }

        private void join(int place, int other) {
            if (place >= 0 && place < joined.length) {
                joined[place] |= bitOf(other);
            }
        }

        /** No place, no bit: what lies beside the first and the last place is never joined. */
        private static int bitOf(int other) {
            return other >= 0 && other < PLACES ? 1 << other : 0;
        }

        private static int bitsAt(int[] bits, int place) {
            return bits != null && place >= 0 && place < bits.length ? bits[place] : 0;
        }
    }

    /** Goes through the phrases of an alignment in their order. */
    private static final class PhraseSearch {
        private final int[] ends = new int[ENDS_OF_PHRASE];
        private int count;

        int count() {
            return count;
        }

        int endOfFound(int what) {
            return what >= 0 && what < ends.length ? ends[what] : NONE;
        }

        /** Counts all phrases, and keeps the ends of the wanted one, if there is one. */
        void seek(Alignment alignment, int wanted) {
            count = 0;
            for (int first = 0; first < alignment.firstLength(); first++) {
                int stop = Math.min(first + LONGEST_SPAN, alignment.firstLength());
                for (int last = first; last < stop; last++) {
                    seekAcross(alignment, first, last, wanted);
                }
            }
        }

        private void seekAcross(Alignment alignment, int first, int last, int wanted) {
            int inside = 0;
            int outside = 0;
            for (int place = 0; place < alignment.firstLength(); place++) {
                if (place >= first && place <= last) {
                    inside |= alignment.joinedBits(place);
                } else {
                    outside |= alignment.joinedBits(place);
                }
            }
            for (int from = 0; from < alignment.secondLength(); from++) {
                int stop = Math.min(from + LONGEST_SPAN, alignment.secondLength());
                for (int to = from; to < stop; to++) {
                    if (isPhrase(inside, outside, spanBits(from, to))) {
                        meet(first, last, from, to, wanted);
                    }
                }
            }
        }

        private static boolean isPhrase(int inside, int outside, int span) {
            return inside != 0 && (inside & ~span) == 0 && (outside & span) == 0;
        }

        private static int spanBits(int from, int to) {
            int span = 0;
            for (int other = from; other <= to; other++) {
                span |= Alignment.bitOf(other);
            }
            return span;
        }

        private void meet(int first, int last, int from, int to, int wanted) {
            if (count == wanted && ends.length == ENDS_OF_PHRASE) {
                ends[0] = first;
                ends[1] = last;
                ends[2] = from;
                ends[3] = to;
            }
            count++;
        }
    }

    /** How likely the pair is that was considered last. */
    private static final class Likelihood {
        private final long[] parts = new long[LIKELY_PLACES * ANSWERERS];
        private int places;
        private int answerers;

        /** Needs a pair with at most 4 words on the side 1. */
        void consider(SentencePair pair, Lexicon lexicon) {
            Sentence answering = pair.ofSide(0);
            Sentence asking = pair.ofSide(1);
            places = Math.min(asking.length(), LIKELY_PLACES);
            answerers = answering.length() + 1;
            for (int place = 0; place < places; place++) {
                int other = asking.at(place);
                setPart(place, 0, lexicon.shareOf(EMPTY, other) / THOUSAND);
                for (int answer = 0; answer < answering.length(); answer++) {
                    int share = lexicon.shareOf(answering.at(answer), other);
                    setPart(place, answer + 1, share / THOUSAND);
                }
            }
        }

        long productOfSums() {
            long product = 1;
            for (int place = 0; place < places; place++) {
                long sum = 0;
                for (int answerer = 0; answerer < answerers; answerer++) {
                    sum += partOf(parts, place, answerer);
                }
                product *= sum;
            }
            return product;
        }

        long sumOfProducts() {
            return sumOfWays(parts, places, answerers, 0, 1L);
        }

        /** Sums the products of all ways that go on from the product of the places behind. */
        private static long sumOfWays(
                long[] parts, int places, int answerers, int place, long product) {
            if (place >= places || place >= LIKELY_PLACES) {
                return product;
            }
            long sum = 0;
            for (int answerer = 0; answerer < answerers; answerer++) {
                long longer = product * partOf(parts, place, answerer);
                sum += sumOfWays(parts, places, answerers, place + 1, longer);
            }
            return sum;
        }

        private void setPart(int place, int answerer, long part) {
            int cell = cellOf(place, answerer);
            if (cell >= 0 && cell < parts.length) {
                parts[cell] = part;
            }
        }

        private static long partOf(long[] parts, int place, int answerer) {
            int cell = cellOf(place, answerer);
            return parts != null && cell >= 0 && cell < parts.length ? parts[cell] : 0L;
        }

        private static int cellOf(int place, int answerer) {
            return place * ANSWERERS + answerer;
        }
    }
}
