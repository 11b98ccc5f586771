/** The edges of promises 12 and 13: link, isJoined. */
final class EdgesOfLinksTest {
    public static void main(String[] args) {
        promise12TheDirections();
        promise12ThePlaces();
        promise12ThePairs();
        promise12HowFarApart();
        promise12TheLowestOfSeveral();
        promise12ToNoneIfThatIsZero();
        promise12TheLeastThatIsAboveZero();
        promise12EmptyAlikeAndGreaterStill();
        promise13ThePlaces();
        promise13ThePairs();
        promise13BothDirections();
        promise13BesideAtMostOneOff();
        promise13BesideInOneRow();
        promise13AgainAndAgain();
        promise13NothingReached();
        promise13TheOrder();
        promise13BothPlacesAreTaken();
        promise13TakenBehindTheOtherSentence();
        promise13BehindALongerPair();
        Check.end();
    }

    private static void links(Glosspair aligner, int direction, int pair, int... due) {
        for (int place = 0; place < due.length; place++) {
            String what = "link(" + direction + ", " + pair + ", " + place + ")";
            Check.equal(what, aligner.link(direction, pair, place), due[place]);
        }
    }

    /** A row for each place of the side 0, x where it is joined to a place of the side 1. */
    private static void joined(Glosspair aligner, int pair, String... due) {
        for (int place = 0; place < due.length; place++) {
            for (int other = 0; other < due[place].length(); other++) {
                String what = "isJoined(" + pair + ", " + place + ", " + other + ")";
                Check.equal(what, ask(aligner, pair, place, other), due[place].charAt(other) == 'x' ? 1 : 0);
            }
        }
    }

    private static long ask(Glosspair aligner, int pair, int place, int other) {
        return aligner.isJoined(pair, place, other) ? 1 : 0;
    }

    private static void promise12TheDirections() {
        Check.about(12, "throws if there is no such direction");
        Glosspair aligner = Made.alike(2, 2);
        Check.outOfBounds("-1", () -> aligner.link(-1, 0, 0));
        Check.equal("0", aligner.link(0, 0, 1), 1);
        Check.equal("1", aligner.link(1, 0, 1), 1);
        Check.outOfBounds("2", () -> aligner.link(2, 0, 0));
        for (int direction : Made.FAR) {
            Check.outOfBounds("direction " + direction, () -> aligner.link(direction, 0, 0));
        }
    }

    private static void promise12ThePlaces() {
        Check.about(12, "place: a place of the sentence for which is answered; throws if there is no such place");
        int[][] lengths = {{1, 8}, {8, 1}, {8, 8}, {1, 1}, {3, 5}};
        for (int[] both : lengths) {
            Glosspair aligner = Made.alike(both[0], both[1]);
            for (int direction = 0; direction < 2; direction++) {
                int asked = direction;
                int length = both[1 - direction];
                int last = both[direction] - 1;
                Check.outOfBounds("-1", () -> aligner.link(asked, 0, -1));
                Check.equal("0", aligner.link(direction, 0, 0), 0);
                Check.equal("the last", aligner.link(direction, 0, length - 1), Math.min(length - 1, last));
                Check.outOfBounds("behind the last of " + length, () -> aligner.link(asked, 0, length));
                Check.outOfBounds("8", () -> aligner.link(asked, 0, 8));
                for (int place : Made.FAR) {
                    Check.outOfBounds("place " + place, () -> aligner.link(asked, 0, place));
                }
            }
        }
    }

    private static void promise12ThePairs() {
        Check.about(12, "throws if there is no such pair, or the pair is not there any more");
        Glosspair aligner = Made.twenty();
        aligner.begin();
        Check.outOfBounds("-1", () -> aligner.link(0, -1, 0));
        Check.equal("0", aligner.link(0, 0, 0), 0);
        Check.equal("19", aligner.link(1, 19, 0), 0);
        Check.outOfBounds("20", () -> aligner.link(0, 20, 0));
        for (int number : Made.FAR) {
            Check.outOfBounds("pair " + number, () -> aligner.link(0, number, 0));
        }
        aligner.takeBack(19);
        Check.outOfBounds("19, taken back", () -> aligner.link(0, 19, 0));
        Check.outOfBounds("19, taken back", () -> aligner.link(1, 19, 0));
        Check.outOfBounds("all is wrong", () -> aligner.link(2, 19, -1));
        Check.equal("18", aligner.link(0, 18, 0), 0);
        Check.outOfBounds("0 of none", () -> new Glosspair().link(0, 0, 0));
    }

    private static void promise12HowFarApart() {
        Check.about(12, "how far places are apart: 0, 1, 2, or 3 and more");
        for (int cell = 0; cell < 64; cell++) {
            int place = cell / 8;
            int other = cell % 8;
            int apart = Math.min(Math.abs(place - other), 3);
            Glosspair aligner = new Glosspair();
            Made.pairOf(aligner, Made.words(0), Made.words(0));
            aligner.begin();
            Made.pairOf(aligner, Made.at(place, 0), Made.at(other, 0));
            for (int silent = 0; silent < 4; silent++) {
                Made.weigh(aligner, 1, 1, 1, 1, 0);
                aligner.weight(silent, 0);
                boolean isSilent = silent == apart;
                String what = place + " and " + other + " without the weight " + silent;
                Check.equal(what, aligner.link(0, 1, other), isSilent ? Glosspair.NONE : place);
                Check.equal(what, aligner.link(1, 1, place), isSilent ? Glosspair.NONE : other);
            }
        }
    }

    private static void promise12TheLowestOfSeveral() {
        Check.about(12, "of several the lowest place");
        Glosspair aligner = Made.alike(8, 8, 1, 1, 1, 1, 1);
        links(aligner, 0, 0, 0, 0, 0, 0, 0, 0, 0, 0);
        links(aligner, 1, 0, 0, 0, 0, 0, 0, 0, 0, 0);
        // One off to the left is as good as one off to the right; only the first has no left.
        Made.weigh(aligner, 0, 1, 0, 0, 0);
        links(aligner, 0, 0, 1, 0, 1, 2, 3, 4, 5, 6);
        Made.weigh(aligner, 0, 0, 0, 1, 0);
        links(aligner, 1, 0, 3, 4, 5, 0, 0, 0, 0, 0);
        Made.weigh(aligner, 8, 0, 0, 9, 0);
        links(aligner, 0, 0, 3, 4, 5, 0, 0, 0, 0, 0);
        Made.weigh(aligner, 9, 0, 0, 9, 0);
        links(aligner, 0, 0, 0, 1, 2, 0, 0, 0, 0, 0);
    }

    private static void promise12ToNoneIfThatIsZero() {
        Check.about(12, "to none, if that is 0");
        Glosspair aligner = new Glosspair();
        Made.pairOf(aligner, Made.words(0, 0), Made.words(0, 0));
        Made.weigh(aligner, 9, 9, 9, 9, 0);
        links(aligner, 0, 0, Glosspair.NONE, Glosspair.NONE);
        links(aligner, 1, 0, Glosspair.NONE, Glosspair.NONE);
        aligner.begin();
        links(aligner, 0, 0, 0, 0);
        Made.weigh(aligner, 0, 0, 0, 0, 0);
        links(aligner, 0, 0, Glosspair.NONE, Glosspair.NONE);
        links(aligner, 1, 0, Glosspair.NONE, Glosspair.NONE);
        Made.weigh(aligner, 0, 0, 0, 0, 9);
        links(aligner, 0, 0, Glosspair.NONE, Glosspair.NONE);
    }

    private static void promise12TheLeastThatIsAboveZero() {
        Check.about(12, "to none, if that is 0: not if it is 1");
        Glosspair aligner = new Glosspair();
        Made.pairOf(aligner, Made.words(0), Made.words(5, 7, 7));
        Made.pairOf(aligner, Made.words(0, 2, 2), Made.words(6));
        aligner.begin();
        Made.rounds(aligner, 11);
        Made.pairOf(aligner, Made.words(0), Made.words(6));
        Check.equal("share(0, 0, 6)", aligner.share(0, 0, 6), 1);
        Made.weigh(aligner, 1, 0, 0, 0, 0);
        links(aligner, 0, 2, 0);
        // EMPTY has the share 1 too: alike, or twice as much.
        Check.equal("share(0, EMPTY, 6)", aligner.share(0, Glosspair.EMPTY, 6), 1);
        aligner.weight(4, 1);
        links(aligner, 0, 2, 0);
        aligner.weight(4, 2);
        links(aligner, 0, 2, Glosspair.NONE);
        Made.weigh(aligner, 0, 9, 9, 9, 0);
        links(aligner, 0, 2, Glosspair.NONE);
    }

    private static void promise12EmptyAlikeAndGreaterStill() {
        Check.about(12, "to none, if that of EMPTY is greater still");
        Glosspair alike = Made.alike(1, 1, 4, 0, 0, 0, 4);
        links(alike, 0, 0, 0);
        links(alike, 1, 0, 0);
        alike.weight(4, 5);
        links(alike, 0, 0, Glosspair.NONE);
        links(alike, 1, 0, Glosspair.NONE);
        // With 9 words EMPTY has 111112 for the lowest and 111111 for the others, which weigh
        // 1000008 and 999999; the word itself has a million.
        Glosspair close = new Glosspair();
        Made.pairOf(close, Made.words(3), Made.words(0));
        Made.pairOf(close, Made.words(4), Made.words(1));
        Made.pairOf(close, Made.words(5), Made.words(2, 3, 4, 5, 6, 7, 8));
        close.begin();
        Made.weigh(close, 1, 1, 1, 1, 9);
        Check.equal("share(0, EMPTY, 0)", close.share(0, Glosspair.EMPTY, 0), 111112);
        Check.equal("share(0, EMPTY, 1)", close.share(0, Glosspair.EMPTY, 1), 111111);
        links(close, 0, 0, Glosspair.NONE);
        links(close, 0, 1, 0);
        close.weight(4, 8);
        links(close, 0, 0, 0);
    }

    private static void promise13ThePlaces() {
        Check.about(13, "throws if there is no such place, of either");
        int[][] lengths = {{1, 8}, {8, 1}, {8, 8}, {1, 1}, {3, 5}};
        for (int[] both : lengths) {
            Glosspair aligner = Made.alike(both[0], both[1]);
            int first = both[0];
            int second = both[1];
            Check.equal("both the first", ask(aligner, 0, 0, 0), 1);
            Check.equal("both the last", ask(aligner, 0, first - 1, second - 1), 1);
            Check.outOfBounds("place -1", () -> ask(aligner, 0, -1, 0));
            Check.outOfBounds("other -1", () -> ask(aligner, 0, 0, -1));
            Check.outOfBounds("place " + first, () -> ask(aligner, 0, first, 0));
            Check.outOfBounds("other " + second, () -> ask(aligner, 0, 0, second));
            Check.outOfBounds("both behind the last", () -> ask(aligner, 0, first, second));
            Check.outOfBounds("place 8", () -> ask(aligner, 0, 8, 0));
            Check.outOfBounds("other 8", () -> ask(aligner, 0, 0, 8));
            for (int place : Made.FAR) {
                Check.outOfBounds("place " + place, () -> ask(aligner, 0, place, 0));
                Check.outOfBounds("other " + place, () -> ask(aligner, 0, 0, place));
            }
        }
    }

    private static void promise13ThePairs() {
        Check.about(13, "throws if there is no such pair, or the pair is not there any more");
        Glosspair aligner = Made.twenty();
        aligner.begin();
        Check.outOfBounds("-1", () -> ask(aligner, -1, 0, 0));
        Check.equal("0", ask(aligner, 0, 0, 0), 1);
        Check.equal("19", ask(aligner, 19, 0, 0), 1);
        Check.outOfBounds("20", () -> ask(aligner, 20, 0, 0));
        for (int number : Made.FAR) {
            Check.outOfBounds("pair " + number, () -> ask(aligner, number, 0, 0));
        }
        aligner.takeBack(19);
        Check.outOfBounds("19, taken back", () -> ask(aligner, 19, 0, 0));
        Check.outOfBounds("19, taken back, no such places", () -> ask(aligner, 19, -1, 8));
        Check.equal("18", ask(aligner, 18, 0, 0), 1);
        Check.outOfBounds("0 of none", () -> ask(new Glosspair(), 0, 0, 0));
    }

    private static void promise13BothDirections() {
        Check.about(13, "at first those that both directions have");
        Glosspair aligner = Made.oneSided();
        int pair = Made.pairOf(aligner, Made.words(0, 14, 1), Made.words(0, 14, 1));
        links(aligner, 0, pair, 0, Glosspair.NONE, 2);
        links(aligner, 1, pair, 0, Glosspair.NONE, Glosspair.NONE);
        joined(aligner, pair, "x..", "...", "...");
        // Without one of both directions there is nothing from which the others could grow.
        int alone = Made.pairOf(aligner, Made.words(1), Made.words(1));
        links(aligner, 0, alone, 0);
        links(aligner, 1, alone, Glosspair.NONE);
        joined(aligner, alone, ".");
        int beside = Made.pairOf(aligner, Made.words(1, 1), Made.words(1, 1));
        links(aligner, 0, beside, 0, 1);
        joined(aligner, beside, "..", "..");
    }

    private static void promise13BesideAtMostOneOff() {
        Check.about(13, "right, left, ahead, behind, or across, both places at most 1 off");
        int[][] centres = {{3, 3}, {4, 2}, {0, 0}, {7, 7}, {0, 7}, {7, 0}, {0, 4}, {4, 7}};
        for (int[] centre : centres) {
            for (int cell = 0; cell < 64; cell++) {
                int place = cell / 8;
                int other = cell % 8;
                if (place != centre[0] && other != centre[1]) {
                    besideOrNot(centre[0], centre[1], place, other);
                }
            }
        }
    }

    private static void besideOrNot(int fromPlace, int fromOther, int place, int other) {
        Glosspair aligner = Made.oneSided();
        int pair = Made.pairOf(aligner, Made.at(fromPlace, 0, place, 1), Made.at(fromOther, 0, other, 1));
        String what = place + " " + other + " from " + fromPlace + " " + fromOther;
        Check.equal("link(0) at " + what, aligner.link(0, pair, other), place);
        Check.equal("link(1) at " + what, aligner.link(1, pair, place), Glosspair.NONE);
        boolean isBeside = Math.abs(place - fromPlace) <= 1 && Math.abs(other - fromOther) <= 1;
        for (int cell = 0; cell < 64; cell++) {
            boolean isFirst = cell == fromPlace * 8 + fromOther;
            boolean isSecond = cell == place * 8 + other && isBeside;
            String asked = "isJoined at " + cell / 8 + " " + cell % 8 + ", " + what;
            Check.equal(asked, ask(aligner, pair, cell / 8, cell % 8), isFirst || isSecond ? 1 : 0);
        }
    }

    private static void promise13BesideInOneRow() {
        Check.about(13, "right, left, ahead, behind: one place the same, the other at most 1 off");
        for (int centre = 0; centre < 8; centre++) {
            for (int off = 0; off < 8; off++) {
                if (off != centre) {
                    Glosspair aligner = Made.oneSided();
                    int row = Made.pairOf(aligner, Made.at(centre, 0), Made.at(centre, 0, off, 0));
                    int column = Made.pairOf(aligner, Made.at(centre, 0, off, 0), Made.at(centre, 0));
                    String what = off + " from " + centre;
                    Check.equal("link(0) at " + what, aligner.link(0, row, off), centre);
                    Check.equal("link(1) at " + what, aligner.link(1, row, centre), centre);
                    Check.equal("link(0) at " + what, aligner.link(0, column, centre), centre);
                    Check.equal("link(1) at " + what, aligner.link(1, column, off), centre);
                    int due = Math.abs(off - centre) == 1 ? 1 : 0;
                    Check.equal("the side 1, " + what, ask(aligner, row, centre, off), due);
                    Check.equal("the side 0, " + what, ask(aligner, column, off, centre), due);
                    Check.equal("the side 1, " + centre, ask(aligner, row, centre, centre), 1);
                    Check.equal("the side 0, " + centre, ask(aligner, column, centre, centre), 1);
                }
            }
        }
    }

    /** In the direction 0 each of 0 to 7 is linked to its like, in the direction 1 just 7 is. */
    private static Glosspair chain() {
        Glosspair aligner = new Glosspair();
        for (int word = 0; word < 8; word++) {
            Made.pairOf(aligner, Made.words(word), Made.words(word));
        }
        Made.pairOf(aligner, Made.words(8), Made.words(0, 1, 2, 3, 4, 5, 6));
        Made.pairOf(aligner, Made.words(9), Made.words(8, 9));
        aligner.begin();
        // EMPTY has 100000 for each of 10 words, which weigh 900000: less than a million, more than a half.
        Made.weigh(aligner, 1, 1, 1, 1, 9);
        return aligner;
    }

    private static void promise13AgainAndAgain() {
        Check.about(13, "That is done again and again, until nothing is joined any more");
        Glosspair aligner = chain();
        int[] up = Made.words(0, 1, 2, 3, 4, 5, 6, 7);
        int[] down = Made.words(7, 6, 5, 4, 3, 2, 1, 0);
        String[] same = {"x.......", ".x......", "..x.....", "...x....", "....x...", ".....x..", "......x.", ".......x"};
        String[] across = {".......x", "......x.", ".....x..", "....x...", "...x....", "..x.....", ".x......", "x......."};
        // Upward each time all are gone through joins just one more.
        int steep = Made.pairOf(aligner, up, up);
        links(aligner, 0, steep, 0, 1, 2, 3, 4, 5, 6, 7);
        int none = Glosspair.NONE;
        links(aligner, 1, steep, none, none, none, none, none, none, none, 7);
        joined(aligner, steep, same);
        joined(aligner, Made.pairOf(aligner, up, down), across);
        joined(aligner, Made.pairOf(aligner, down, down), same);
        joined(aligner, Made.pairOf(aligner, down, up), across);
    }

    private static void promise13NothingReached() {
        Check.about(13, "until nothing is joined any more: not over a gap");
        Glosspair aligner = chain();
        int pair = Made.pairOf(aligner, Made.words(0, 1, 2, 14, 4, 5, 6, 7), Made.words(0, 1, 2, 3, 4, 5, 6, 7));
        links(aligner, 0, pair, 0, 1, 2, Glosspair.NONE, 4, 5, 6, 7);
        joined(aligner, pair, "........", "........", "........", "........", "....x...", ".....x..", "......x.", ".......x");
    }

    private static void promise13TheOrder() {
        Check.about(13, "gone through, by places of the side 0, then of the side 1: one is joined at once");
        Glosspair aligner = new Glosspair();
        Made.pairOf(aligner, Made.words(0), Made.words(0, 1));
        Made.pairOf(aligner, Made.words(1), Made.words(0, 5, 6));
        Made.pairOf(aligner, Made.words(2), Made.words(1, 5, 6));
        Made.pairOf(aligner, Made.words(3), Made.words(2));
        Made.pairOf(aligner, Made.words(8), Made.words(0));
        aligner.begin();
        Made.weigh(aligner, 1, 1, 1, 1, 0);
        int none = Glosspair.NONE;
        // From (0,2) grows (1,1), at once from that (2,0), so (4,0) has both places taken when it
        // comes; by places of the side 1 it would come ahead of (1,1).
        int down = Made.pairOf(aligner, Made.words(3, 2, 1, 14, 0), Made.words(0, 1, 2));
        links(aligner, 0, down, 4, 4, 0);
        links(aligner, 1, down, 2, 1, 0, none, 1);
        joined(aligner, down, "..x", ".x.", "x..", "...", ".x.");
        // From (3,2) grows (2,1); (1,0) is beside that, but comes again only behind (5,0).
        int up = Made.pairOf(aligner, Made.words(14, 1, 2, 3, 14, 0), Made.words(0, 1, 2));
        links(aligner, 0, up, 5, 5, 3);
        links(aligner, 1, up, none, 0, 1, 2, none, 1);
        joined(aligner, up, "...", "x..", ".x.", "..x", "...", "xx.");
    }

    private static void promise13BothPlacesAreTaken() {
        Check.about(13, "its place of the side 0, or that of the side 1, has no joined link yet; joined at once");
        Glosspair aligner = new Glosspair();
        Made.pairOf(aligner, Made.words(0), Made.words(0));
        Made.pairOf(aligner, Made.words(1), Made.words(0, 5, 6));
        aligner.begin();
        Made.weigh(aligner, 9, 1, 2, 0, 0);
        int[] second = Made.words(14, 14, 14, 0, 0);
        // (2,4) is of the direction 1, (3,4) of the direction 0; the first takes the place of the other.
        int both = Made.pairOf(aligner, Made.words(14, 14, 1, 0), second);
        links(aligner, 0, both, Glosspair.NONE, Glosspair.NONE, Glosspair.NONE, 3, 3);
        links(aligner, 1, both, Glosspair.NONE, Glosspair.NONE, 4, 3);
        joined(aligner, both, ".....", ".....", "....x", "...x.");
        int one = Made.pairOf(aligner, Made.words(14, 14, 14, 0), second);
        joined(aligner, one, ".....", ".....", ".....", "...xx");
        // The same at the first place of the side 0 and the last one of the side 1.
        int first = Made.pairOf(aligner, Made.words(1, 0), Made.words(14, 0, 0));
        links(aligner, 0, first, Glosspair.NONE, 1, 1);
        links(aligner, 1, first, 2, 1);
        joined(aligner, first, "..x", ".x.");
    }

    private static void promise13TakenBehindTheOtherSentence() {
        Check.about(13, "that of the side 1 has no joined link yet, be the side 0 longer or shorter");
        Glosspair aligner = new Glosspair();
        Made.pairOf(aligner, Made.words(0), Made.words(0, 1));
        Made.pairOf(aligner, Made.words(1), Made.words(1));
        Made.pairOf(aligner, Made.words(8), Made.words(0));
        Made.pairOf(aligner, Made.words(9), Made.words(0));
        aligner.begin();
        Made.weigh(aligner, 1, 1, 1, 1, 0);
        // From (2,1) grows (1,0); (1,1) comes too late, as the place 2 of the side 0 has that of the side 1.
        int longer = Made.pairOf(aligner, Made.words(14, 0, 1), Made.words(0, 1));
        links(aligner, 0, longer, 1, 2);
        links(aligner, 1, longer, Glosspair.NONE, 1, 1);
        joined(aligner, longer, "..", "x.", ".x");
        int shorter = Made.pairOf(aligner, Made.words(0, 1), Made.words(14, 0, 1));
        links(aligner, 0, shorter, Glosspair.NONE, 0, 1);
        links(aligner, 1, shorter, 2, 2);
        joined(aligner, shorter, ".x.", "..x");
    }

    private static void promise13BehindALongerPair() {
        Check.about(13, "Tells whether two places are joined, whatever was asked ahead");
        Glosspair aligner = Made.oneSided();
        int longer = Made.pairOf(aligner, new int[8], new int[8]);
        int shorter = Made.pairOf(aligner, Made.words(14, 0), Made.words(14, 14, 0));
        Check.equal("the longer one", ask(aligner, longer, 1, 1), 1);
        joined(aligner, shorter, "...", "..x");
        Check.equal("the longer one again", ask(aligner, longer, 7, 7), 1);
        Check.equal("the longer one again", ask(aligner, longer, 1, 2), 0);
    }
}
