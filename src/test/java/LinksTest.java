/** Promises 8, 12 and 13: weight, link, isJoined. */
final class LinksTest {
    private static final int[] NO_NUMBERS = {-1, 2, 20, Integer.MIN_VALUE, Integer.MAX_VALUE};

    public static void main(String[] args) {
        weightTellsTheOneBefore();
        weightRefusesWhatIsOutOfRange();
        linkGoesToTheGreatest();
        linkGoesByHowFarApart();
        linkGoesToTheLowestOfSeveral();
        linkGoesToNoneForEmpty();
        linkGoesToNoneWithoutShares();
        linkRefusesWhatIsNotThere();
        joinedAreThoseOfBothDirections();
        joinedGrowNotFromNone();
        joinedGrowAgainAndAgain();
        joinedGrowAtOnce();
        joinedGrowNotAcrossAGap();
        joinedGrowNotWhereBothPlacesAreTaken();
        joinedGrowWhereOnePlaceIsFree();
        joinedRefusesWhatIsNotThere();
        Check.end();
    }

    private static void links(Glosspair aligner, int direction, int... due) {
        for (int place = 0; place < due.length; place++) {
            String what = "link(" + direction + ", 0, " + place + ")";
            Check.equal(what, aligner.link(direction, 0, place), due[place]);
        }
    }

    /** A row for each place of the side 0, x where it is joined to a place of the side 1. */
    private static void joined(Glosspair aligner, String... due) {
        for (int place = 0; place < due.length; place++) {
            for (int other = 0; other < due[place].length(); other++) {
                boolean isDue = due[place].charAt(other) == 'x';
                String what = "isJoined(0, " + place + ", " + other + ")";
                Check.equal(what, aligner.isJoined(0, place, other) ? 1 : 0, isDue ? 1 : 0);
            }
        }
    }

    private static void weightTellsTheOneBefore() {
        Glosspair aligner = new Glosspair();
        int[] first = {4, 3, 2, 1, 1};
        for (int apart = 0; apart < first.length; apart++) {
            Check.equal("weight " + apart, aligner.weight(apart, 9 - apart), first[apart]);
        }
        for (int apart = 0; apart < first.length; apart++) {
            Check.equal("weight " + apart + " again", aligner.weight(apart, 0), 9 - apart);
        }
        Check.equal("weight 0 at last", aligner.weight(0, 9), 0);
        Check.equal("weight 0 at last", aligner.weight(0, 9), 9);
    }

    private static void weightRefusesWhatIsOutOfRange() {
        Glosspair aligner = new Glosspair();
        int[] noAparts = {-1, 5, Integer.MIN_VALUE, Integer.MAX_VALUE};
        for (int apart : noAparts) {
            Check.outOfBounds("weight(" + apart + ", 1)", () -> aligner.weight(apart, 1));
            Check.outOfBounds("weight(" + apart + ", 10)", () -> aligner.weight(apart, 10));
        }
        int[] noWeights = {-1, 10, Integer.MIN_VALUE, Integer.MAX_VALUE};
        for (int weight : noWeights) {
            Check.illegalArgument("weight(0, " + weight + ")", () -> aligner.weight(0, weight));
            Check.illegalArgument("weight(4, " + weight + ")", () -> aligner.weight(4, weight));
        }
        Check.equal("weight 0 is kept", aligner.weight(0, 4), 4);
        Check.equal("weight 4 is kept", aligner.weight(4, 1), 1);
    }

    private static void linkGoesToTheGreatest() {
        Glosspair aligner = new Glosspair();
        Made.pairOf(aligner, Made.words(0, 1), Made.words(5, 6));
        Made.pairOf(aligner, Made.words(1), Made.words(5));
        aligner.begin();
        for (int round = 0; round < 20; round++) {
            aligner.round();
        }
        Made.weigh(aligner, 1, 1, 1, 1, 0);
        links(aligner, 0, 1, 0);
        links(aligner, 1, 1, 0);
        joined(aligner, ".x", "x.");
        Check.equal("link(0, 1, 0)", aligner.link(0, 1, 0), 0);
    }

    private static void linkGoesByHowFarApart() {
        Glosspair aligner = Made.alike(8, 8);
        Made.weigh(aligner, 4, 3, 2, 1, 1);
        links(aligner, 0, 0, 1, 2, 3, 4, 5, 6, 7);
        Made.weigh(aligner, 0, 9, 8, 7);
        links(aligner, 0, 1, 0, 1, 2, 3, 4, 5, 6);
        Made.weigh(aligner, 0, 0, 9, 8);
        links(aligner, 0, 2, 3, 0, 1, 2, 3, 4, 5);
        Made.weigh(aligner, 0, 0, 0, 9);
        links(aligner, 0, 3, 4, 5, 0, 0, 0, 0, 0);
        links(aligner, 1, 3, 4, 5, 0, 0, 0, 0, 0);
    }

    private static void linkGoesToTheLowestOfSeveral() {
        Glosspair aligner = Made.alike(3, 2);
        Made.weigh(aligner, 2, 2, 2, 2);
        links(aligner, 0, 0, 0);
        links(aligner, 1, 0, 0, 0);
    }

    private static void linkGoesToNoneForEmpty() {
        Glosspair aligner = Made.alike(2, 1);
        // All shares are a million: EMPTY's must be greater still.
        Made.weigh(aligner, 4, 3, 2, 1, 4);
        links(aligner, 0, 0);
        links(aligner, 1, 0, Glosspair.NONE);
        aligner.weight(4, 5);
        links(aligner, 0, Glosspair.NONE);
        links(aligner, 1, Glosspair.NONE, Glosspair.NONE);
    }

    private static void linkGoesToNoneWithoutShares() {
        Glosspair aligner = new Glosspair();
        Made.pairOf(aligner, Made.words(0), Made.words(0));
        aligner.weight(4, 0);
        links(aligner, 0, Glosspair.NONE);
        aligner.begin();
        links(aligner, 0, 0);
        Made.weigh(aligner, 0, 9, 9, 9, 0);
        links(aligner, 0, Glosspair.NONE);
        joined(aligner, ".");
    }

    private static void linkRefusesWhatIsNotThere() {
        Glosspair aligner = Made.alike(3, 2);
        for (int number : NO_NUMBERS) {
            Check.outOfBounds("link direction " + number, () -> aligner.link(number, 0, 0));
            Check.outOfBounds("link of pair " + number, () -> aligner.link(0, number, 0));
            Check.outOfBounds("link(0) of place " + number, () -> aligner.link(0, 0, number));
        }
        Check.equal("link(1, 0, 2)", aligner.link(1, 0, 2), 1);
        Check.outOfBounds("link(1, 0, 3)", () -> aligner.link(1, 0, 3));
        Check.outOfBounds("link(1, 0, -1)", () -> aligner.link(1, 0, -1));
        Check.outOfBounds("link(0, 1, 0)", () -> aligner.link(0, 1, 0));
        aligner.takeBack(0);
        Check.outOfBounds("link of one taken back", () -> aligner.link(0, 0, 0));
    }

    private static void joinedAreThoseOfBothDirections() {
        Glosspair aligner = Made.alike(3, 3);
        joined(aligner, "x..", ".x.", "..x");
        Made.weigh(aligner, 0, 0, 1, 0, 0);
        joined(aligner, "..x", "...", "x..");
        Glosspair none = new Glosspair();
        Made.pairOf(none, Made.words(0), Made.words(0));
        joined(none, ".");
    }

    private static void joinedGrowNotFromNone() {
        Glosspair aligner = new Glosspair();
        Made.pairOf(aligner, Made.words(0), Made.words(5));
        Made.pairOf(aligner, Made.words(1, 2, 3, 4, 5, 6, 7, 8), Made.words(6));
        Made.pairOf(aligner, Made.words(9, 10), Made.words(6));
        aligner.begin();
        Made.weigh(aligner, 1, 1, 1, 1, 9);
        // EMPTY has a half for 5, but an eleventh for 0, so that one direction alone links them.
        links(aligner, 0, Glosspair.NONE);
        links(aligner, 1, 0);
        joined(aligner, ".");
    }

    private static void joinedGrowAgainAndAgain() {
        Glosspair aligner = Made.alike(4, 1);
        // The side 1's place is linked to the farthest place, and each place of the side 0 to it.
        Made.weigh(aligner, 1, 2, 3, 9, 0);
        links(aligner, 0, 3);
        links(aligner, 1, 0, 0, 0, 0);
        joined(aligner, "x", "x", "x", "x");
        Glosspair other = Made.alike(1, 4);
        Made.weigh(other, 1, 2, 3, 9, 0);
        links(other, 1, 3);
        joined(other, "xxxx");
    }

    private static void joinedGrowAtOnce() {
        Glosspair aligner = Made.alike(8, 1);
        joined(aligner, "x", "x", "x", "x", "x", "x", "x", "x");
        Glosspair other = Made.alike(1, 8);
        joined(other, "xxxxxxxx");
        Glosspair wide = Made.alike(2, 5);
        links(wide, 0, 0, 1, 1, 1, 0);
        links(wide, 1, 0, 1);
        // (0,4) is reached across from (1,3), so only when all are gone through again.
        joined(wide, "x...x", ".xxx.");
    }

    private static void joinedGrowNotAcrossAGap() {
        Glosspair aligner = Made.alike(3, 1);
        // The middle place has no link, so that the last one is beside no joined one.
        Made.weigh(aligner, 9, 0, 5, 0, 0);
        links(aligner, 0, 0);
        links(aligner, 1, 0, Glosspair.NONE, 0);
        joined(aligner, "x", ".", ".");
    }

    private static void joinedGrowNotWhereBothPlacesAreTaken() {
        Glosspair aligner = Made.alike(2, 3);
        Made.weigh(aligner, 1, 1, 2, 0, 0);
        links(aligner, 0, 0, 0, 0);
        links(aligner, 1, 2, 0);
        // From (0,2) grows (0,1), from that across (1,0); (0,0) comes too late, its places are taken.
        joined(aligner, ".xx", "x..");
        Glosspair wide = Made.alike(2, 4);
        Made.weigh(wide, 1, 0, 2, 2, 0);
        links(wide, 0, 0, 1, 0, 0);
        links(wide, 1, 2, 3);
        // From (0,2) grow (0,3) and (1,1), from that (0,0); (1,3) comes too late.
        joined(wide, "x.xx", ".x..");
    }

    private static void joinedGrowWhereOnePlaceIsFree() {
        Glosspair aligner = Made.alike(3, 3);
        Made.weigh(aligner, 0, 1, 0, 0, 0);
        links(aligner, 0, 1, 0, 1);
        links(aligner, 1, 1, 0, 1);
        // (0,1) and (1,0) are joined at first; (1,2) has its place of the side 1 free, (2,1) that of 0.
        joined(aligner, ".x.", "x.x", ".x.");
    }

    private static void joinedRefusesWhatIsNotThere() {
        Glosspair aligner = Made.alike(1, 2);
        for (int number : NO_NUMBERS) {
            Check.outOfBounds("isJoined of pair " + number, () -> ask(aligner, number, 0, 0));
            Check.outOfBounds("isJoined place " + number, () -> ask(aligner, 0, number, 0));
            Check.outOfBounds("isJoined other " + number, () -> ask(aligner, 0, 0, number));
        }
        Check.outOfBounds("isJoined(0, 1, 0)", () -> ask(aligner, 0, 1, 0));
        Check.equal("isJoined(0, 0, 1)", ask(aligner, 0, 0, 1), 1);
        Check.outOfBounds("isJoined(1, 0, 0)", () -> ask(aligner, 1, 0, 0));
        aligner.takeBack(0);
        Check.outOfBounds("isJoined of one taken back", () -> ask(aligner, 0, 0, 0));
    }

    private static long ask(Glosspair aligner, int pair, int place, int other) {
        return aligner.isJoined(pair, place, other) ? 1 : 0;
    }
}
