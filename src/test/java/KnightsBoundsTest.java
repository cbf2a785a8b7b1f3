/** The boundary cases of term 1 and of promises 1 to 6, sentence by sentence. */
public final class KnightsBoundsTest {
    private static final Bounds BOUNDS = new Bounds("KnightsBoundsTest");
    private static final int NUMBER = TiltLists.NUMBER;

    public static void main(String[] args) {
        fourteenAtMost();
        nearIfAtLeastTwo();
        whoYields();
        howeverItIsWithThatOne();
        newObjectHasNothing();
        newObjectRefusesAllNumbers();
        knightNumbers();
        knightFull();
        armsNumbers();
        rankNumbers();
        rankTellsWhatItWas();
        ofNumbers();
        ofNobody();
        ofTheLeast();
        nearOfNoneToAll();
        BOUNDS.end();
    }

    /** Term 1: "KNIGHTS are numbered from 0 as they come, 14 at most". */
    private static void fourteenAtMost() {
        TiltLists x = new TiltLists();
        for (int i = 0; i < 14; i++) {
            BOUNDS.due("knight " + i, x.knight(3, 5, 9, 5), i);
            BOUNDS.due("many(0) with knight " + i, x.many(0), i + 1);
        }
        BOUNDS.due("knight 14", x.knight(3, 5, 9, 5), TiltLists.FULL);
        BOUNDS.due("many(0) with 14", x.many(0), 14);
    }

    /** Term 1: "NEAR if at least two of the three are alike": all arms against some at the edges. */
    private static void nearIfAtLeastTwo() {
        int[][] some = {{0, 0, 0}, {5, 9, 5}, {2, 5, 3}, {5, 0, 0}, {0, 5, 5}};
        for (int[] arms : some) {
            for (int i = 0; i < 6 * 10 * 6; i++) {
                nearOf(arms[0], arms[1], arms[2], i / 60, i / 6 % 10, i % 6);
            }
        }
    }

    private static void nearOf(int field, int charge, int tincture, int field2, int charge2, int tincture2) {
        TiltLists x = new TiltLists();
        x.knight(1, field, charge, tincture);
        x.knight(1, field2, charge2, tincture2);
        int alike = (field == field2 ? 1 : 0) + (charge == charge2 ? 1 : 0) + (tincture == tincture2 ? 1 : 0);
        String what = field + "," + charge + "," + tincture + " and " + field2 + "," + charge2 + "," + tincture2;
        BOUNDS.due("near() of " + what, x.near(), alike >= 2 ? 1 : 0);
        BOUNDS.due("of(1, 4) of " + what, x.of(1, 4), alike >= 2 ? 0 : 1);
        BOUNDS.due("of(0, 4) of " + what, x.of(0, 4), 1);
    }

    /** Term 1: "that of the lesser RANK, of like RANKS that with the greater number". */
    private static void whoYields() {
        for (int first = 0; first <= 3; first++) {
            for (int second = 0; second <= 3; second++) {
                TiltLists x = new TiltLists();
                x.knight(first, 1, 1, 1);
                x.knight(second, 1, 1, 2);
                boolean isFirst = first < second;
                String what = ") with ranks " + first + ", " + second;
                BOUNDS.due("of(0, 5" + what, x.of(0, 5), isFirst ? 1 : -2);
                BOUNDS.due("of(1, 5" + what, x.of(1, 5), isFirst ? -2 : 0);
                BOUNDS.due("of(0, 4" + what, x.of(0, 4), isFirst ? 0 : 1);
                BOUNDS.due("of(1, 4" + what, x.of(1, 4), isFirst ? 1 : 0);
            }
        }
    }

    /** Term 1: "a knight who YIELDS to some other one CAN'T RIDE (however it is with that one)". */
    private static void howeverItIsWithThatOne() {
        TiltLists x = new TiltLists();
        x.knight(0, 0, 0, 0);
        x.knight(1, 0, 0, 1);
        x.knight(2, 0, 1, 1);
        x.knight(3, 1, 1, 1);
        for (int k = 0; k < 4; k++) {
            BOUNDS.due("of(" + k + ", 4) in a chain", x.of(k, 4), k == 3 ? 1 : 0);
            BOUNDS.due("of(" + k + ", 5) in a chain", x.of(k, 5), k == 3 ? -2 : k + 1);
        }
        BOUNDS.due("many(7) in a chain", x.many(7), 1);
    }

    /** Promise 1: "No KNIGHTS, ORDINANCES, JOUSTS, CHALLENGES, FEUDS; nothing is fed." */
    private static void newObjectHasNothing() {
        TiltLists x = new TiltLists();
        for (int what = 0; what <= 9; what++) {
            BOUNDS.due("many(" + what + ") of a new object", x.many(what), what == 2 ? -2 : 0);
        }
        BOUNDS.due("near()", x.near(), 0);
        BOUNDS.due("best()", x.best(), TiltLists.NONE);
        BOUNDS.due("withdraw()", x.withdraw(), TiltLists.NONE);
        BOUNDS.due("turns()", x.turns(), 0);
        BOUNDS.due("ordain()", x.ordain(), TiltLists.FAULT);
        BOUNDS.due("scrap()", x.scrap(), 0);
        for (int i = 0; i <= 6; i++) {
            BOUNDS.due("tent(" + i + ")", x.tent(i), TiltLists.NONE);
        }
    }

    /** Promise 1 again: what is not there has no number. */
    private static void newObjectRefusesAllNumbers() {
        none("arms", NUMBER, (x, v) -> x.arms(v, 0, 0, 0));
        none("rank", NUMBER, (x, v) -> x.rank(v, 0));
        none("of", NUMBER, (x, v) -> x.of(v, 0));
        none("force", NUMBER, TiltLists::force);
        none("worth", TiltLists.NOTHING, (x, v) -> x.worth(v, 0));
        none("joust", NUMBER, (x, v) -> x.joust(v, v + 1));
        none("stroke", NUMBER, (x, v) -> x.stroke(v, 0, 0, 0));
        none("copy", NUMBER, (x, v) -> x.copy(v, v, 0, 0, 0, 0));
        none("sheet", TiltLists.NOTHING, (x, v) -> x.sheet(v, 0, 0));
        none("wins", NUMBER, (x, v) -> x.wins(v, 0));
        none("won", NUMBER, TiltLists::won);
        none("owes", NUMBER, TiltLists::owes);
        none("pay", NUMBER, (x, v) -> x.pay(v, 0, 1));
        none("purse", TiltLists.NOTHING, TiltLists::purse);
        none("challenge", NUMBER, (x, v) -> x.challenge(v, v + 1));
        none("turn", NUMBER, TiltLists::turn);
        none("feud", NUMBER, (x, v) -> x.feud(v, v + 1, true));
    }

    private static void none(String what, int refusal, Bounds.CallWith call) {
        BOUNDS.range(what + " of a new object", TiltLists::new, 0, -1, refusal, call);
    }

    /** Promise 2: "NUMBER: rank isn't 0 to 3, field or tincture not 0 to 5, or charge not 0 to 9". */
    private static void knightNumbers() {
        BOUNDS.range("knight's rank", Settings::tourney, 0, 3, NUMBER, (x, v) -> x.knight(v, 0, 0, 0));
        BOUNDS.range("knight's field", Settings::tourney, 0, 5, NUMBER, (x, v) -> x.knight(0, v, 0, 0));
        BOUNDS.range("knight's charge", Settings::tourney, 0, 9, NUMBER, (x, v) -> x.knight(0, 0, v, 0));
        BOUNDS.range("knight's tincture", Settings::tourney, 0, 5, NUMBER, (x, v) -> x.knight(0, 0, 0, v));
        for (int i = 0; i < 4 * 6 * 10 * 6; i++) {
            int rank = i / 360;
            TiltLists x = new TiltLists();
            BOUNDS.due("knight of kind " + i, x.knight(rank, i / 60 % 6, i / 6 % 10, i % 6), 0);
            BOUNDS.due("its rank and arms", x.of(0, 0) * 360 + x.of(0, 1) * 60 + x.of(0, 2) * 6 + x.of(0, 3), i);
        }
    }

    /** Promise 2: "FULL", behind NUMBER. */
    private static void knightFull() {
        BOUNDS.refused("a knight too many", Settings::fullOfKnights, TiltLists.FULL, x -> x.knight(3, 5, 9, 5));
        BOUNDS.refused("rank ahead of FULL", Settings::fullOfKnights, NUMBER, x -> x.knight(4, 0, 0, 0));
        BOUNDS.refused("field ahead of FULL", Settings::fullOfKnights, NUMBER, x -> x.knight(0, 6, 0, 0));
        BOUNDS.refused("charge ahead of FULL", Settings::fullOfKnights, NUMBER, x -> x.knight(0, 0, 10, 0));
        BOUNDS.refused("tincture ahead of FULL", Settings::fullOfKnights, NUMBER, x -> x.knight(0, 0, 0, -1));
    }

    /** Promise 3: "NUMBER: there is none such, or as of knight()." */
    private static void armsNumbers() {
        BOUNDS.range("arms of five", Settings::tourney, 0, 4, NUMBER, (x, v) -> x.arms(v, 1, 2, 3));
        BOUNDS.range("arms of fourteen", Settings::fullOfKnights, 0, 13, NUMBER, (x, v) -> x.arms(v, 1, 2, 3));
        BOUNDS.range("arms' field", Settings::tourney, 0, 5, NUMBER, (x, v) -> x.arms(4, v, 0, 0));
        BOUNDS.range("arms' charge", Settings::tourney, 0, 9, NUMBER, (x, v) -> x.arms(4, 0, v, 0));
        BOUNDS.range("arms' tincture", Settings::tourney, 0, 5, NUMBER, (x, v) -> x.arms(4, 0, 0, v));
        for (int k = 0; k < 14; k++) {
            TiltLists x = Settings.fullOfKnights();
            BOUNDS.due("arms of knight " + k, x.arms(k, 5, 9, 5), 1);
            BOUNDS.due("the same again", x.arms(k, 5, 9, 5), 1);
            BOUNDS.due("they are its", x.of(k, 1) * 100 + x.of(k, 2) * 10 + x.of(k, 3), 595);
            BOUNDS.due("its rank stays", x.of(k, 0), k % 4);
        }
    }

    /** Promise 4: "NUMBER: there is none such, or it isn't 0 to 3." */
    private static void rankNumbers() {
        BOUNDS.range("rank of five", Settings::tourney, 0, 4, NUMBER, (x, v) -> x.rank(v, 1));
        BOUNDS.range("rank of fourteen", Settings::fullOfKnights, 0, 13, NUMBER, (x, v) -> x.rank(v, 1));
        BOUNDS.range("rank", Settings::tourney, 0, 3, NUMBER, (x, v) -> x.rank(2, v));
    }

    /** Promise 4: "becomes another one: what it was". */
    private static void rankTellsWhatItWas() {
        for (int from = 0; from <= 3; from++) {
            for (int to = 0; to <= 3; to++) {
                TiltLists x = new TiltLists();
                x.knight(from, 0, 0, 0);
                BOUNDS.due("rank from " + from + " to " + to, x.rank(0, to), from);
                BOUNDS.due("rank then", x.of(0, 0), to);
            }
        }
    }

    /** Promise 5: "NUMBER: there is none such, another what." */
    private static void ofNumbers() {
        for (int what = 0; what <= 5; what++) {
            int w = what;
            BOUNDS.range("of five, " + w, Settings::tourney, 0, 4, NUMBER, (x, v) -> x.of(v, w));
        }
        BOUNDS.range("of fourteen", Settings::fullOfKnights, 0, 13, NUMBER, (x, v) -> x.of(v, 0));
        BOUNDS.range("of what", Settings::tourney, 0, 5, NUMBER, (x, v) -> x.of(3, v));
    }

    /** Promise 5: "5 the least KNIGHT to whom it YIELDS (-2: nobody)". */
    private static void ofNobody() {
        TiltLists x = new TiltLists();
        x.knight(0, 2, 2, 2);
        BOUNDS.due("of(0, 5) of one alone", x.of(0, 5), -2);
        BOUNDS.due("of(0, 4) of one alone", x.of(0, 4), 1);
        x.knight(0, 2, 2, 2);
        BOUNDS.due("of(0, 5) of one to whom the other one yields", x.of(0, 5), -2);
        BOUNDS.due("of(1, 5)", x.of(1, 5), 0);
    }

    /** Promise 5 again: of several the least number, be it above or below its own. */
    private static void ofTheLeast() {
        TiltLists x = new TiltLists();
        x.knight(3, 5, 9, 5);
        x.knight(2, 0, 0, 1);
        x.knight(1, 0, 0, 0);
        x.knight(3, 0, 0, 2);
        BOUNDS.due("of(2, 5), though 3 has the greater rank", x.of(2, 5), 1);
        x.arms(1, 5, 8, 4);
        BOUNDS.due("of(2, 5) without 1", x.of(2, 5), 3);
        x.arms(0, 0, 0, 3);
        BOUNDS.due("of(2, 5) with 0", x.of(2, 5), 0);
    }

    /** Promise 6: "How many pairs of KNIGHTS have NEAR ARMS": none, and all of fourteen. */
    private static void nearOfNoneToAll() {
        TiltLists x = new TiltLists();
        for (int n = 0; n < 14; n++) {
            BOUNDS.due("near() of " + n + " alike", x.near(), n * (n - 1) / 2);
            x.knight(0, 0, 0, n % 6);
        }
        BOUNDS.due("near() of 14 alike", x.near(), 91);
        TiltLists y = Check.withKnights(10);
        BOUNDS.due("near() of ten unlike", y.near(), 0);
        y.arms(9, 0, 0, 3);
        BOUNDS.due("near() of the first and the last", y.near(), 1);
    }
}
