/** The boundary cases of the ransoms in term 3 and of promises 19 to 21, sentence by sentence. */
public final class RansomsBoundsTest {
    private static final Bounds BOUNDS = new Bounds("RansomsBoundsTest");
    private static final int NUMBER = TiltLists.NUMBER;

    public static void main(String[] args) {
        tenForEachRank();
        rankThatItHasNow();
        gapIsNone();
        nothingAtLeast();
        owesNumbers();
        owesInAll();
        payNumbers();
        payMoreThanIsOwed();
        payNumberAheadOfNone();
        payToTheLastCoin();
        purseNumbers();
        purseInAll();
        BOUNDS.end();
    }

    /** A joust in which side 1's knight, of this rank, was unhorsed, and so much of it paid. */
    private static TiltLists unhorsed(int rank, int paid) {
        TiltLists x = Settings.withJousts(1);
        x.rank(1, rank);
        x.stroke(0, 0, 0, 4);
        if (paid > 0) {
            x.pay(0, 1, paid);
        }
        return x;
    }

    /** Term 3: "10, and 10 more for each RANK .. if the other SIDE's SHEET has a STROKE 4, else 0". */
    private static void tenForEachRank() {
        for (int rank = 0; rank <= 3; rank++) {
            for (int side = 0; side < 2; side++) {
                for (int course = 0; course < 6; course++) {
                    TiltLists x = Settings.withJousts(1);
                    x.rank(side, rank);
                    x.stroke(0, 1 - side, course, 4);
                    String what = ") of rank " + rank + ", unhorsed in course " + course;
                    BOUNDS.due("owes(" + side + what, x.owes(side), 10 + 10 * rank);
                    BOUNDS.due("owes(" + (1 - side) + what, x.owes(1 - side), 0);
                }
            }
            TiltLists x = unhorsed(rank, 0);
            Check.tell(x, 0, 0, "444444");
            BOUNDS.due("owes(1), unhorsed six times", x.owes(1), 10 + 10 * rank);
        }
    }

    /** Term 3: "for each RANK that its KNIGHT has now". */
    private static void rankThatItHasNow() {
        TiltLists x = unhorsed(0, 0);
        for (int rank = 3; rank >= 0; rank--) {
            x.rank(1, rank);
            BOUNDS.due("owes(1) of rank " + rank, x.owes(1), 10 + 10 * rank);
        }
        x.rank(0, 3);
        BOUNDS.due("owes(1), the other one's rank is greater", x.owes(1), 10);
    }

    /** Term 3: "(a GAP is none)"; no other stroke is one either. */
    private static void gapIsNone() {
        for (int stroke = 0; stroke <= 6; stroke++) {
            TiltLists x = Settings.withJousts(1);
            for (int course = 0; course < 6; course++) {
                x.stroke(0, 0, course, stroke);
            }
            BOUNDS.due("owes(1) by strokes " + stroke, x.owes(1), stroke == 4 ? 10 : 0);
            BOUNDS.due("many(8) by strokes " + stroke, x.many(8), stroke == 4 ? 10 : 0);
        }
    }

    /** Term 3: "PAID .. stays. The KNIGHT OWES the other one what PAID lacks of it (0 at least)." */
    private static void nothingAtLeast() {
        TiltLists x = unhorsed(3, 35);
        int[] due = {0, 0, 0, 5};
        for (int rank = 0; rank <= 3; rank++) {
            x.rank(1, rank);
            BOUNDS.due("owes(1) of rank " + rank + ", 35 are paid", x.owes(1), due[rank]);
            BOUNDS.due("many(8)", x.many(8), due[rank]);
            BOUNDS.due("many(9)", x.many(9), 35);
        }
        x.stroke(0, 0, 0, 0);
        BOUNDS.due("owes(1) without a stroke 4", x.owes(1), 0);
        BOUNDS.due("many(9) stays", x.many(9), 35);
        BOUNDS.due("purse(1) stays", x.purse(1), -35);
        x.stroke(0, 0, 5, 4);
        BOUNDS.due("owes(1) with a stroke 4 again", x.owes(1), 5);
        // What is paid beyond one ransom does not lessen another one.
        x.rank(1, 0);
        x.joust(1, 0);
        x.stroke(1, 1, 0, 4);
        BOUNDS.due("owes(1) of the second", x.owes(1), 10);
        BOUNDS.due("many(8) of both", x.many(8), 10);
    }

    /** Promise 19: "NUMBER: there is none such." */
    private static void owesNumbers() {
        BOUNDS.range("owes of five", Settings::tourney, 0, 4, NUMBER, TiltLists::owes);
        BOUNDS.range("owes of fourteen", Settings::fullOfKnights, 0, 13, NUMBER, TiltLists::owes);
    }

    /** Promise 19: "in all its JOUSTS together": none to thirty. */
    private static void owesInAll() {
        TiltLists x = Settings.withJousts(30);
        x.rank(1, 3);
        for (int j = 0; j < 30; j++) {
            BOUNDS.due("owes(1) in " + j, x.owes(1), 40 * j);
            x.stroke(j, 0, j % 6, 4);
        }
        BOUNDS.due("owes(1) in 30", x.owes(1), 1200);
        BOUNDS.due("owes(0) in 30", x.owes(0), 0);
        BOUNDS.due("owes(2) without jousts", x.owes(2), 0);
        BOUNDS.due("many(8)", x.many(8), 1200);
    }

    /** Promise 20: "NUMBER: there is no such JOUST, side, or v isn't 1 to 100". */
    private static void payNumbers() {
        BOUNDS.range("pay's joust", Settings::tourney, 0, 2, NUMBER, (x, v) -> x.pay(v, 1, 1));
        BOUNDS.range("pay's joust of 30", () -> Settings.withJousts(30), 0, 29, NUMBER, (x, v) -> x.pay(v, 1, 1));
        BOUNDS.range("pay's side", Settings::tourney, 0, 1, NUMBER, (x, v) -> x.pay(0, v, 1));
        BOUNDS.range("pay", Settings::tourney, 1, 100, NUMBER, (x, v) -> x.pay(0, 1, v));
        BOUNDS.range("pay of what nothing is owed of", Settings::tourney, 1, 100, NUMBER, (x, v) -> x.pay(2, 0, v));
    }

    /** Promise 20: "NONE: it OWES less than v of it." */
    private static void payMoreThanIsOwed() {
        for (int rank = 0; rank <= 3; rank++) {
            int r = rank;
            int owed = 10 + 10 * rank;
            for (int v = 1; v <= 100; v++) {
                int coins = v;
                if (v <= owed) {
                    BOUNDS.due("pay " + v + " of " + owed, unhorsed(r, 0).pay(0, 1, v), owed - v);
                    BOUNDS.refused("pay once more than is left", () -> unhorsed(r, coins), TiltLists.NONE,
                        x -> x.pay(0, 1, owed - coins + 1));
                } else {
                    BOUNDS.refused("pay " + v + " of " + owed, () -> unhorsed(r, 0), TiltLists.NONE,
                        x -> x.pay(0, 1, coins));
                }
            }
        }
        BOUNDS.refused("pay for one who is not unhorsed", () -> unhorsed(3, 0), TiltLists.NONE, x -> x.pay(0, 0, 1));
        BOUNDS.refused("pay by gaps", () -> Settings.withJousts(1), TiltLists.NONE, x -> x.pay(0, 1, 1));
        // Each ransom by itself: what is owed of another joust can't be paid here.
        BOUNDS.refused("pay of the other joust", RansomsBoundsTest::twoOwed, TiltLists.NONE, x -> x.pay(0, 1, 11));
        BOUNDS.due("pay of both", twoOwed().pay(1, 1, 10), 0);
    }

    private static TiltLists twoOwed() {
        TiltLists x = Settings.withJousts(2);
        x.stroke(0, 0, 0, 4);
        x.stroke(1, 0, 0, 4);
        return x;
    }

    /** Promise 20: NUMBER is named ahead of NONE. */
    private static void payNumberAheadOfNone() {
        BOUNDS.refused("pay 0 of nothing", () -> Settings.withJousts(1), NUMBER, x -> x.pay(0, 1, 0));
        BOUNDS.refused("pay 101 of nothing", () -> Settings.withJousts(1), NUMBER, x -> x.pay(0, 1, 101));
        BOUNDS.refused("pay 101 of 40", () -> unhorsed(3, 0), NUMBER, x -> x.pay(0, 1, 101));
        BOUNDS.refused("pay 100 of 40", () -> unhorsed(3, 0), TiltLists.NONE, x -> x.pay(0, 1, 100));
        BOUNDS.refused("pay -1 of 40", () -> unhorsed(3, 0), NUMBER, x -> x.pay(0, 1, -1));
    }

    /** Promise 20: "how much it OWES of that still": coin by coin, to the last. */
    private static void payToTheLastCoin() {
        TiltLists x = unhorsed(3, 0);
        for (int left = 39; left >= 0; left--) {
            BOUNDS.due("pay(0, 1, 1) with " + left + " left", x.pay(0, 1, 1), left);
            BOUNDS.due("owes(1)", x.owes(1), left);
            BOUNDS.due("many(9)", x.many(9), 40 - left);
            BOUNDS.due("purse(0)", x.purse(0), 40 - left);
        }
        BOUNDS.due("pay(0, 1, 1) with none left", x.pay(0, 1, 1), TiltLists.NONE);
        BOUNDS.due("many(9) then", x.many(9), 40);
    }

    /** Promise 21: "NOTHING: there is none such." */
    private static void purseNumbers() {
        BOUNDS.range("purse of five", Settings::tourney, 0, 4, TiltLists.NOTHING, TiltLists::purse);
        BOUNDS.range("purse of fourteen", Settings::fullOfKnights, 0, 13, TiltLists.NOTHING, TiltLists::purse);
    }

    /** Promise 21: "What a KNIGHT was paid, less what it paid, in all": up to all of thirty ransoms. */
    private static void purseInAll() {
        TiltLists x = Settings.withJousts(30);
        x.rank(1, 3);
        for (int j = 0; j < 30; j++) {
            BOUNDS.due("purse(0) in " + j, x.purse(0), 40 * j);
            BOUNDS.due("purse(1) in " + j, x.purse(1), -40 * j);
            x.stroke(j, 0, 5, 4);
            BOUNDS.due("pay all of " + j, x.pay(j, 1, 40), 0);
        }
        BOUNDS.due("purse(0) in 30", x.purse(0), 1200);
        BOUNDS.due("purse(1) in 30", x.purse(1), -1200);
        BOUNDS.due("purse(2) without jousts", x.purse(2), 0);
        x.stroke(0, 1, 0, 4);
        BOUNDS.due("0 pays back", x.pay(0, 0, 10), 0);
        BOUNDS.due("purse(0) at last", x.purse(0), 1190);
        BOUNDS.due("many(9) at last", x.many(9), 1210);
    }
}
