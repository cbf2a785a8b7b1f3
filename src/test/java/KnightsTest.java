/** Promises 1 to 6: a new object, knight, arms, rank, of, near. */
public final class KnightsTest {
    private static final Check CHECK = new Check("KnightsTest");

    public static void main(String[] args) {
        newObject();
        knight();
        arms();
        rank();
        of();
        near();
        yielding();
        yieldingOfAll();
        CHECK.end();
    }

    private static void newObject() {
        TiltLists x = new TiltLists();
        int[] due = {0, 0, -2, 0, 0, 0, 0, 0, 0, 0};
        for (int what = 0; what < due.length; what++) {
            CHECK.due("new many(" + what + ")", x.many(what), due[what]);
        }
        CHECK.due("new near()", x.near(), 0);
        CHECK.due("new turns()", x.turns(), 0);
        CHECK.due("new best()", x.best(), TiltLists.NONE);
        CHECK.due("new tent(0)", x.tent(0), TiltLists.NONE);
        CHECK.due("new scrap()", x.scrap(), 0);
        CHECK.due("new ordain()", x.ordain(), TiltLists.FAULT);
        CHECK.due("new withdraw()", x.withdraw(), TiltLists.NONE);
        TiltLists other = new TiltLists();
        x.knight(0, 0, 0, 0);
        x.feed('b');
        CHECK.due("another object's knights", other.many(0), 0);
        CHECK.due("another object's letters", other.many(6), 0);
    }

    private static void knight() {
        TiltLists x = new TiltLists();
        int[][] wrong = {
            {-1, 0, 0, 0}, {4, 0, 0, 0}, {0, -1, 0, 0}, {0, 6, 0, 0},
            {0, 0, -1, 0}, {0, 0, 10, 0}, {0, 0, 0, -1}, {0, 0, 0, 6}};
        refuseAll(x, wrong);
        for (int v : Check.OUTSIDE) {
            refuseAll(x, new int[][] {{v, 0, 0, 0}, {0, v, 0, 0}, {0, 0, v, 0}, {0, 0, 0, v}});
        }
        CHECK.due("many(0) behind refusals", x.many(0), 0);
        for (int i = 0; i < 14; i++) {
            CHECK.due("knight " + i, x.knight(i % 4, i % 6, i % 10, 5 - i % 6), i);
        }
        CHECK.due("knight 14", x.knight(0, 0, 0, 0), TiltLists.FULL);
        refuseAll(x, wrong);
        CHECK.due("many(0) when full", x.many(0), 14);
        for (int i = 0; i < 14; i++) {
            CHECK.due("rank of " + i, x.of(i, 0), i % 4);
            CHECK.due("field of " + i, x.of(i, 1), i % 6);
            CHECK.due("charge of " + i, x.of(i, 2), i % 10);
            CHECK.due("tincture of " + i, x.of(i, 3), 5 - i % 6);
        }
    }

    private static void refuseAll(TiltLists x, int[][] wrong) {
        for (int[] w : wrong) {
            CHECK.due("knight(" + w[0] + ", " + w[1] + ", " + w[2] + ", " + w[3] + ")",
                x.knight(w[0], w[1], w[2], w[3]), TiltLists.NUMBER);
        }
    }

    private static void arms() {
        TiltLists x = new TiltLists();
        CHECK.due("arms of none", x.arms(0, 0, 0, 0), TiltLists.NUMBER);
        x.knight(2, 1, 2, 3);
        x.knight(1, 0, 0, 0);
        CHECK.due("arms(0, 5, 9, 5)", x.arms(0, 5, 9, 5), 1);
        CHECK.due("arms(0, 5, 9, 5) again", x.arms(0, 5, 9, 5), 1);
        CHECK.due("arms(2, ..)", x.arms(2, 0, 0, 0), TiltLists.NUMBER);
        for (int v : new int[] {-1, 6, Integer.MAX_VALUE}) {
            CHECK.due("field " + v, x.arms(0, v, 0, 0), TiltLists.NUMBER);
            CHECK.due("tincture " + v, x.arms(0, 0, 0, v), TiltLists.NUMBER);
            CHECK.due("charge", x.arms(0, 0, v == 6 ? 10 : v, 0), TiltLists.NUMBER);
        }
        for (int v : Check.OUTSIDE) {
            CHECK.due("arms of knight " + v, x.arms(v, 0, 0, 0), TiltLists.NUMBER);
        }
        int[] due = {2, 5, 9, 5};
        for (int what = 0; what < 4; what++) {
            CHECK.due("of(0, " + what + ")", x.of(0, what), due[what]);
        }
        CHECK.due("the other one's field", x.of(1, 1), 0);
        CHECK.due("arms(1, 0, 0, 0)", x.arms(1, 0, 0, 0), 1);
        CHECK.due("arms(1, 5, 9, 0)", x.arms(1, 5, 9, 0), 1);
        CHECK.due("near by new arms", x.near(), 1);
        CHECK.due("yields by new arms", x.of(1, 5), 0);
    }

    private static void rank() {
        TiltLists x = new TiltLists();
        CHECK.due("rank of none", x.rank(0, 0), TiltLists.NUMBER);
        x.knight(2, 1, 2, 3);
        x.knight(0, 1, 2, 4);
        CHECK.due("of(1, 5)", x.of(1, 5), 0);
        CHECK.due("rank(1, 3)", x.rank(1, 3), 0);
        CHECK.due("rank(1, 3) again", x.rank(1, 3), 3);
        CHECK.due("of(1, 5) when greater", x.of(1, 5), -2);
        CHECK.due("of(0, 5) when less", x.of(0, 5), 1);
        CHECK.due("rank(1, 2)", x.rank(1, 2), 3);
        CHECK.due("of(1, 5) when like", x.of(1, 5), 0);
        CHECK.due("rank(0, -1)", x.rank(0, -1), TiltLists.NUMBER);
        CHECK.due("rank(0, 4)", x.rank(0, 4), TiltLists.NUMBER);
        CHECK.due("rank(2, 0)", x.rank(2, 0), TiltLists.NUMBER);
        for (int v : Check.OUTSIDE) {
            CHECK.due("rank of knight " + v, x.rank(v, 0), TiltLists.NUMBER);
            CHECK.due("rank " + v, x.rank(0, v), TiltLists.NUMBER);
        }
        CHECK.due("of(0, 0)", x.of(0, 0), 2);
        CHECK.due("rank(0, 0)", x.rank(0, 0), 2);
        CHECK.due("of(0, 0) then", x.of(0, 0), 0);
        CHECK.due("of(0, 1) then", x.of(0, 1), 1);
    }

    private static void of() {
        TiltLists x = new TiltLists();
        CHECK.due("of none", x.of(0, 0), TiltLists.NUMBER);
        x.knight(3, 4, 8, 2);
        int[] due = {3, 4, 8, 2, 1, -2};
        for (int what = 0; what < due.length; what++) {
            CHECK.due("of(0, " + what + ")", x.of(0, what), due[what]);
            CHECK.due("of(1, " + what + ")", x.of(1, what), TiltLists.NUMBER);
        }
        CHECK.due("of(0, 6)", x.of(0, 6), TiltLists.NUMBER);
        for (int v : Check.OUTSIDE) {
            CHECK.due("of(0, " + v + ")", x.of(0, v), TiltLists.NUMBER);
            CHECK.due("of(" + v + ", 0)", x.of(v, 0), TiltLists.NUMBER);
        }
    }

    private static void near() {
        int[][] arms = {
            {1, 2, 3}, {1, 2, 4}, {1, 5, 3}, {0, 2, 3}, {1, 5, 4}, {0, 2, 4}, {0, 5, 3}, {0, 5, 4}};
        int[] due = {1, 1, 1, 0, 0, 0, 0};
        for (int i = 1; i < arms.length; i++) {
            TiltLists x = new TiltLists();
            x.knight(0, arms[0][0], arms[0][1], arms[0][2]);
            x.knight(0, arms[i][0], arms[i][1], arms[i][2]);
            CHECK.due("near with arms " + i, x.near(), due[i - 1]);
        }
        TiltLists x = new TiltLists();
        for (int i = 0; i < 14; i++) {
            CHECK.due("near of " + i, x.near(), i * (i - 1) / 2);
            x.knight(i % 4, 3, 3, 3);
        }
        CHECK.due("near of 14", x.near(), 91);
        // A field that is like another one's charge is no likeness.
        x = new TiltLists();
        x.knight(0, 1, 2, 3);
        x.knight(0, 2, 3, 1);
        CHECK.due("near by other parts", x.near(), 0);
    }

    private static void yielding() {
        TiltLists x = new TiltLists();
        x.knight(1, 0, 0, 0);
        x.knight(2, 0, 0, 1);
        x.knight(3, 0, 1, 1);
        x.knight(3, 0, 1, 2);
        // 0 yields to 1; 1 to 2, as they have field and tincture alike; 3 to 2.
        CHECK.due("of(0, 5)", x.of(0, 5), 1);
        CHECK.due("of(1, 5)", x.of(1, 5), 2);
        CHECK.due("of(2, 5)", x.of(2, 5), -2);
        CHECK.due("of(3, 5)", x.of(3, 5), 2);
        CHECK.due("of(0, 4), to one who yields too", x.of(0, 4), 0);
        CHECK.due("of(1, 4)", x.of(1, 4), 0);
        CHECK.due("of(2, 4)", x.of(2, 4), 1);
        CHECK.due("of(3, 4)", x.of(3, 4), 0);
        CHECK.due("many(7)", x.many(7), 1);
        CHECK.due("rank(2, 0)", x.rank(2, 0), 3);
        CHECK.due("of(2, 5) of the least rank", x.of(2, 5), 1);
        CHECK.due("of(1, 5) then", x.of(1, 5), -2);
        CHECK.due("many(7) then", x.many(7), 2);
        CHECK.due("arms(2, 5, 9, 5)", x.arms(2, 5, 9, 5), 1);
        CHECK.due("many(7) at last", x.many(7), 3);
    }

    private static void yieldingOfAll() {
        TiltLists x = new TiltLists();
        for (int i = 0; i < 14; i++) {
            x.knight(i == 9 ? 3 : 2, 1, 7, i % 6);
        }
        for (int i = 0; i < 14; i++) {
            CHECK.due("of(" + i + ", 5)", x.of(i, 5), i == 0 ? 9 : i == 9 ? -2 : 0);
            CHECK.due("of(" + i + ", 4)", x.of(i, 4), i == 9 ? 1 : 0);
        }
        CHECK.due("many(7)", x.many(7), 1);
        x.arms(0, 2, 2, 2);
        CHECK.due("many(7) with the first one", x.many(7), 2);
    }
}
