/** Promises 22 to 25: challenge, withdraw, turn, turns. */
public final class ChallengesTest {
    private static final Check CHECK = new Check("ChallengesTest");

    public static void main(String[] args) {
        challenge();
        withdraw();
        plans();
        turn();
        CHECK.end();
    }

    private static void challenge() {
        TiltLists x = new TiltLists();
        CHECK.due("no knights", x.challenge(0, 1), TiltLists.NUMBER);
        // Knights who can't ride may challenge: nothing in the document forbids it.
        for (int i = 0; i < 5; i++) {
            x.knight(0, 0, 0, 0);
        }
        int[][] pairs = {{0, 1}, {2, 1}, {3, 4}, {0, 4}, {2, 3}, {4, 2}, {1, 3}};
        for (int i = 0; i < 7; i++) {
            CHECK.due("challenge " + i, x.challenge(pairs[i][0], pairs[i][1]), i);
            CHECK.due("the same two", x.challenge(pairs[i][0], pairs[i][1]), TiltLists.TWICE);
            CHECK.due("the same two, turned", x.challenge(pairs[i][1], pairs[i][0]), TiltLists.TWICE);
        }
        CHECK.due("an eighth", x.challenge(0, 2), TiltLists.FULL);
        CHECK.due("TWICE ahead of FULL", x.challenge(1, 0), TiltLists.TWICE);
        CHECK.due("the same knight", x.challenge(0, 0), TiltLists.NUMBER);
        CHECK.due("no such knight", x.challenge(0, 5), TiltLists.NUMBER);
        CHECK.due("no such other", x.challenge(5, 0), TiltLists.NUMBER);
        for (int v : Check.OUTSIDE) {
            CHECK.due("challenge(" + v + ", 0)", x.challenge(v, 0), TiltLists.NUMBER);
            CHECK.due("challenge(0, " + v + ")", x.challenge(0, v), TiltLists.NUMBER);
        }
        CHECK.due("many(4)", x.many(4), 7);
    }

    private static void withdraw() {
        TiltLists x = Check.withKnights(4);
        CHECK.due("withdraw none", x.withdraw(), TiltLists.NONE);
        x.challenge(0, 1);
        x.challenge(1, 2);
        CHECK.due("turns()", x.turns(), 3);
        CHECK.due("withdraw()", x.withdraw(), 1);
        CHECK.due("turn(1)", x.turn(1), TiltLists.NUMBER);
        CHECK.due("turns()", x.turns(), 1);
        CHECK.due("the latest may come again", x.challenge(2, 1), 1);
        CHECK.due("the first one not", x.challenge(1, 0), TiltLists.TWICE);
        CHECK.due("withdraw()", x.withdraw(), 1);
        CHECK.due("withdraw()", x.withdraw(), 0);
        CHECK.due("turns()", x.turns(), 0);
        CHECK.due("withdraw none", x.withdraw(), TiltLists.NONE);
        CHECK.due("many(4)", x.many(4), 0);
    }

    private static void plans() {
        planOf("", 0);
        planOf("01", 1, 0);
        planOf("01 23 45 67", 1, 0, 0, 0, 0);
        planOf("01 12", 3, 0, 2);
        planOf("01 12 20", 5, 0, 2, 4);
        planOf("01 02 03 04 05 06 07", 13, 0, 2, 4, 6, 8, 10, 12);
        // A ring of even length needs three turns, a ring of odd length five.
        planOf("01 12 23 30", 3, 0, 2, 0, 2);
        planOf("01 12 23 34 40", 5, 0, 2, 0, 2, 4);
        planOf("01 23 12 24", 5, 0, 0, 2, 4);
        // The first two could both be at 0; but then three turns would not do.
        planOf("01 34 12 23", 3, 0, 2, 2, 0);
        // Knight 6 needs turn 0 too, which the first three, all put to 0, would leave to none.
        planOf("01 23 45 06 16 26 46", 7, 0, 0, 2, 2, 4, 6, 0);
        // Nobody has more than three, yet five turns don't do.
        planOf("01 02 03 12 13 24 34", 7, 0, 2, 4, 4, 2, 0, 6);
    }

    private static void planOf(String pairs, int turns, int... due) {
        TiltLists x = Check.withKnights(10);
        for (int i = 0; i + 1 < pairs.length(); i += 3) {
            x.challenge(pairs.charAt(i) - '0', pairs.charAt(i + 1) - '0');
        }
        CHECK.due("turns() of " + pairs, x.turns(), turns);
        for (int i = 0; i < due.length; i++) {
            CHECK.due("turn(" + i + ") of " + pairs, x.turn(i), due[i]);
        }
        CHECK.due("turn behind the last of " + pairs, x.turn(due.length), TiltLists.NUMBER);
    }

    private static void turn() {
        TiltLists x = Check.withKnights(4);
        CHECK.due("turn(0) of none", x.turn(0), TiltLists.NUMBER);
        x.challenge(0, 1);
        x.challenge(1, 2);
        CHECK.due("turn(1)", x.turn(1), 2);
        CHECK.due("turn(0)", x.turn(0), 0);
        for (int v : Check.OUTSIDE) {
            CHECK.due("turn(" + v + ")", x.turn(v), TiltLists.NUMBER);
        }
    }
}
