/** The boundary cases of term 4 and of promises 22 to 25, sentence by sentence. */
public final class ChallengesBoundsTest {
    private static final Bounds BOUNDS = new Bounds("ChallengesBoundsTest");
    private static final int NUMBER = TiltLists.NUMBER;

    public static void main(String[] args) {
        sevenAtMost();
        nobodyTwiceNorInTurnsThatFollow();
        leastGreatestTurn();
        firstUnlikeHasTheLesserTurn();
        challengeNumbers();
        challengeSame();
        challengeTwice();
        challengeFull();
        challengeWhoYields();
        withdrawTheLatest();
        withdrawNone();
        turnNumbers();
        turnsWithoutChallenges();
        turnsUpToThirteen();
        BOUNDS.end();
    }

    /** Challenges as pairs of figures. */
    private static TiltLists challenged(String pairs) {
        TiltLists x = Check.withKnights(10);
        for (int i = 0; i + 1 < pairs.length(); i += 3) {
            x.challenge(pairs.charAt(i) - '0', pairs.charAt(i + 1) - '0');
        }
        return x;
    }

    private static void plan(String pairs, int... due) {
        TiltLists x = challenged(pairs);
        int greatest = -1;
        for (int i = 0; i < due.length; i++) {
            BOUNDS.due("turn(" + i + ") of " + pairs, x.turn(i), due[i]);
            greatest = Math.max(greatest, due[i]);
        }
        BOUNDS.due("turns() of " + pairs, x.turns(), greatest + 1);
        BOUNDS.due("many(4) of " + pairs, x.many(4), due.length);
    }

    /** Term 4: "CHALLENGES are numbered from 0, 7 at most". */
    private static void sevenAtMost() {
        TiltLists x = Check.withKnights(9);
        for (int i = 0; i < 7; i++) {
            BOUNDS.due("challenge " + i, x.challenge(8, i), i);
            BOUNDS.due("many(4) with " + i, x.many(4), i + 1);
        }
        BOUNDS.due("challenge 7", x.challenge(8, 7), TiltLists.FULL);
        BOUNDS.due("many(4) with 7", x.many(4), 7);
    }

    /** Term 4: "nobody has two in one TURN, nor in two TURNS that follow one another". */
    private static void nobodyTwiceNorInTurnsThatFollow() {
        plan("01 02", 0, 2);
        plan("01 20", 0, 2);
        plan("01 12", 0, 2);
        plan("01 21", 0, 2);
        plan("01 23", 0, 0);
        plan("01 12 23", 0, 2, 0);
        plan("01 12 20", 0, 2, 4);
    }

    /** Term 4: "The BEST PLAN has the least greatest TURN", though an early one must come later for it. */
    private static void leastGreatestTurn() {
        plan("01 34 12 23", 0, 2, 2, 0);
        plan("01 23 45 12 24", 0, 0, 0, 2, 4);
        plan("01 23 45 06 16 26 46", 0, 0, 2, 2, 4, 6, 0);
        plan("01 02 03 12 13 24 34", 0, 2, 4, 4, 2, 0, 6);
    }

    /** Term 4: "in which the first CHALLENGE for which they are unlike has the lesser TURN". */
    private static void firstUnlikeHasTheLesserTurn() {
        plan("01 23 02", 0, 0, 2);
        plan("01 02 34", 0, 2, 0);
        plan("34 01 02 03", 0, 0, 2, 4);
        plan("01 02 03 45 56 67 78", 0, 2, 4, 0, 2, 0, 2);
        plan("01 12 23 30", 0, 2, 0, 2);
    }

    /** Promise 22: "NUMBER: there is no such KNIGHT (either)". */
    private static void challengeNumbers() {
        BOUNDS.range("challenge's knight", Settings::tourney, 0, 4, NUMBER, (x, v) -> x.challenge(v, v == 2 ? 4 : 2));
        BOUNDS.range("challenge's other", Settings::tourney, 0, 4, NUMBER, (x, v) -> x.challenge(v == 2 ? 4 : 2, v));
        BOUNDS.range("challenge of fourteen", Settings::fullOfKnights, 0, 13, NUMBER,
            (x, v) -> x.challenge(v, (v + 1) % 14));
    }

    /** Promise 22: "or they are the same", ahead of FULL. */
    private static void challengeSame() {
        for (int k = 0; k <= 4; k++) {
            int same = k;
            BOUNDS.refused("challenge of itself", Settings::tourney, NUMBER, x -> x.challenge(same, same));
            BOUNDS.refused("itself ahead of FULL", () -> Settings.withChallenges(7), NUMBER, x -> x.challenge(same, same));
        }
    }

    /** Promise 22: "TWICE" (term 4: "no two CHALLENGES of the same two"), ahead of FULL. */
    private static void challengeTwice() {
        for (int n = 1; n <= 7; n++) {
            int there = n;
            for (int i = 1; i <= n; i++) {
                int other = i;
                BOUNDS.refused("0 and " + i + " of " + n, () -> Settings.withChallenges(there), TiltLists.TWICE,
                    x -> x.challenge(0, other));
                BOUNDS.refused(i + " and 0 of " + n, () -> Settings.withChallenges(there), TiltLists.TWICE,
                    x -> x.challenge(other, 0));
            }
        }
        // The two need be in the same challenge.
        BOUNDS.due("1 and 2, both challenged by 0", Settings.withChallenges(2).challenge(1, 2), 2);
    }

    /** Promise 22: "FULL", behind NUMBER and TWICE. */
    private static void challengeFull() {
        BOUNDS.refused("an eighth", () -> Settings.withChallenges(7), TiltLists.FULL, x -> x.challenge(0, 8));
        BOUNDS.refused("an eighth of others", () -> Settings.withChallenges(7), TiltLists.FULL, x -> x.challenge(2, 1));
        BOUNDS.refused("NUMBER ahead of FULL", () -> Settings.withChallenges(7), NUMBER, x -> x.challenge(0, 9));
        BOUNDS.due("a seventh", Settings.withChallenges(6).challenge(0, 8), 6);
    }

    /** Promise 22 names no YIELDS: who can't ride may challenge. */
    private static void challengeWhoYields() {
        TiltLists x = Settings.withJousts(0);
        BOUNDS.due("of(3, 4)", x.of(3, 4), 0);
        BOUNDS.due("challenge(3, 0)", x.challenge(3, 0), 0);
        BOUNDS.due("challenge(1, 3)", x.challenge(1, 3), 1);
    }

    /** Promise 23: "The latest CHALLENGE is no more: how many there are." */
    private static void withdrawTheLatest() {
        TiltLists x = Settings.withChallenges(7);
        for (int left = 6; left >= 0; left--) {
            BOUNDS.due("withdraw()", x.withdraw(), left);
            BOUNDS.due("many(4)", x.many(4), left);
            BOUNDS.due("turns()", x.turns(), left == 0 ? 0 : 2 * left - 1);
            BOUNDS.due("turn of the one withdrawn", x.turn(left), NUMBER);
            BOUNDS.due("it may come again", x.challenge(left + 1, 0), left);
            BOUNDS.due("it is the latest", x.withdraw(), left);
        }
        BOUNDS.due("room behind a withdrawal", fullAndWithdrawn().challenge(0, 8), 6);
    }

    private static TiltLists fullAndWithdrawn() {
        TiltLists x = Settings.withChallenges(7);
        x.withdraw();
        return x;
    }

    /** Promise 23: "NONE: there are none." */
    private static void withdrawNone() {
        BOUNDS.refused("withdraw of a new object", TiltLists::new, TiltLists.NONE, TiltLists::withdraw);
        BOUNDS.refused("withdraw with knights", () -> Check.withKnights(4), TiltLists.NONE, TiltLists::withdraw);
        TiltLists x = Settings.withChallenges(1);
        BOUNDS.due("withdraw the only one", x.withdraw(), 0);
        BOUNDS.due("withdraw none", x.withdraw(), TiltLists.NONE);
        BOUNDS.due("withdraw none again", x.withdraw(), TiltLists.NONE);
        BOUNDS.due("a first one then", x.challenge(0, 1), 0);
    }

    /** Promise 24: "NUMBER: there is none such." */
    private static void turnNumbers() {
        for (int n = 0; n <= 7; n++) {
            int there = n;
            BOUNDS.range("turn of " + n, () -> Settings.withChallenges(there), 0, n - 1, NUMBER, TiltLists::turn);
        }
        BOUNDS.range("turn of a withdrawn one", ChallengesBoundsTest::fullAndWithdrawn, 0, 5, NUMBER, TiltLists::turn);
    }

    /** Promise 25: "0 without CHALLENGES". */
    private static void turnsWithoutChallenges() {
        BOUNDS.due("turns() of a new object", new TiltLists().turns(), 0);
        BOUNDS.due("turns() with knights", Settings.fullOfKnights().turns(), 0);
        TiltLists x = Settings.withChallenges(1);
        BOUNDS.due("turns() with one", x.turns(), 1);
        x.withdraw();
        BOUNDS.due("turns() without it", x.turns(), 0);
    }

    /** Promise 25: "the greatest one and 1": one to thirteen. */
    private static void turnsUpToThirteen() {
        for (int n = 1; n <= 7; n++) {
            TiltLists x = Settings.withChallenges(n);
            BOUNDS.due("turns() of " + n + " of one knight", x.turns(), 2 * n - 1);
            for (int i = 0; i < n; i++) {
                BOUNDS.due("turn(" + i + ")", x.turn(i), 2 * i);
            }
        }
        TiltLists y = new TiltLists();
        for (int i = 0; i < 14; i++) {
            y.knight(0, 0, 0, 0);
        }
        for (int i = 0; i < 7; i++) {
            BOUNDS.due("challenge of two new ones", y.challenge(13 - i, i), i);
            BOUNDS.due("turns() of pairs", y.turns(), 1);
            BOUNDS.due("turn of the latest", y.turn(i), 0);
        }
    }
}
