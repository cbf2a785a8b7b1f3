/** Promises 12 to 18: joust, stroke, copy, sheet, wins, won, best. */
public final class JoustsTest {
    private static final Check CHECK = new Check("JoustsTest");

    public static void main(String[] args) {
        joust();
        refusalsInOrder();
        ordinanceStays();
        sixOrdinances();
        thirtyJousts();
        stroke();
        copy();
        copyOverItself();
        sheet();
        wins();
        winsByTie();
        won();
        best();
        CHECK.end();
    }

    /** Knights that can ride, an ordinance and a joust of the first two. */
    private static TiltLists withJoust(String text) {
        TiltLists x = Check.withKnights(4);
        Check.ordain(x, text);
        CHECK.due("the joust by " + text, x.joust(0, 1), 0);
        return x;
    }

    private static void joust() {
        TiltLists x = Check.withKnights(3);
        CHECK.due("no ordinance", x.joust(0, 1), TiltLists.NONE);
        Check.ordain(x, "b1");
        for (int i = 0; i < 30; i++) {
            CHECK.due("joust " + i, x.joust(i % 3, (i + 1) % 3), i);
        }
        CHECK.due("joust 30", x.joust(0, 1), TiltLists.FULL);
        CHECK.due("many(3)", x.many(3), 30);
        CHECK.due("with itself", x.joust(0, 0), TiltLists.NUMBER);
        CHECK.due("sheet(29, 1, 2)", x.sheet(29, 1, 2), 6);
        CHECK.due("stroke(29, 1, 5, 4)", x.stroke(29, 1, 5, 4), 6);
        CHECK.due("sheet(29, 0, 2)", x.sheet(29, 0, 2), 6);
        CHECK.due("sheet(28, 1, 2)", x.sheet(28, 1, 2), 6);
    }

    private static void refusalsInOrder() {
        TiltLists x = new TiltLists();
        CHECK.due("no knights", x.joust(0, 1), TiltLists.NUMBER);
        x.knight(0, 0, 0, 0);
        x.knight(0, 0, 0, 1);
        x.knight(0, 5, 5, 5);
        for (int v : Check.OUTSIDE) {
            CHECK.due("joust(" + v + ", 0)", x.joust(v, 0), TiltLists.NUMBER);
            CHECK.due("joust(0, " + v + ")", x.joust(0, v), TiltLists.NUMBER);
        }
        CHECK.due("joust(0, 3)", x.joust(0, 3), TiltLists.NUMBER);
        CHECK.due("joust(3, 0)", x.joust(3, 0), TiltLists.NUMBER);
        CHECK.due("NONE ahead of YIELDS", x.joust(0, 1), TiltLists.NONE);
        Check.ordain(x, "b1");
        CHECK.due("the other one yields", x.joust(2, 1), TiltLists.YIELDS);
        CHECK.due("the first one yields", x.joust(1, 2), TiltLists.YIELDS);
        CHECK.due("both together", x.joust(0, 1), TiltLists.YIELDS);
        CHECK.due("the same who yields", x.joust(1, 1), TiltLists.NUMBER);
        CHECK.due("many(3)", x.many(3), 0);
        for (int i = 0; i < 30; i++) {
            CHECK.due("joust " + i, x.joust(0, 2), i);
        }
        CHECK.due("YIELDS ahead of FULL", x.joust(0, 1), TiltLists.YIELDS);
        CHECK.due("FULL", x.joust(2, 0), TiltLists.FULL);
        x.arms(1, 4, 4, 4);
        CHECK.due("FULL with all who can ride", x.joust(0, 1), TiltLists.FULL);
    }

    private static void ordinanceStays() {
        TiltLists x = withJoust("b1");
        Check.ordain(x, "b2");
        CHECK.due("joust by the second", x.joust(0, 1), 1);
        x.force(0);
        CHECK.due("joust by the first again", x.joust(0, 1), 2);
        int[] due = {6, 12, 6};
        for (int i = 0; i < 3; i++) {
            CHECK.due("HIGH of joust " + i, x.sheet(i, 0, 1), due[i]);
        }
        x.arms(1, 0, 0, 0);
        CHECK.due("a knight who came to yield", x.of(1, 4), 0);
        CHECK.due("has its joust still", x.stroke(0, 1, 0, 1), 6);
    }

    private static void sixOrdinances() {
        TiltLists x = Check.withKnights(2);
        for (int i = 0; i < 6; i++) {
            CHECK.due("ordinance " + i, Check.ordain(x, "f" + (i + 1) + "b-" + (6 - i)), i);
            CHECK.due("its joust", x.joust(0, 1), i);
        }
        for (int i = 0; i < 6; i++) {
            CHECK.due("LOW by ordinance " + i, x.sheet(i, 1, 0), -6 * (6 - i));
            CHECK.due("HIGH by ordinance " + i, x.sheet(i, 1, 1), 6 * (i + 1));
        }
    }

    private static void thirtyJousts() {
        TiltLists x = Check.withKnights(3);
        Check.ordain(x, "b1");
        for (int i = 0; i < 30; i++) {
            x.joust(0, 1);
            Check.tell(x, i, 0, "111114");
        }
        CHECK.due("best() before any wins", x.best(), 2);
        for (int i = 0; i < 30; i++) {
            Check.tell(x, i, 1, "000000");
        }
        CHECK.due("won(0) of 30", x.won(0), 30);
        CHECK.due("won(1) of 30", x.won(1), 0);
        CHECK.due("best() of 30", x.best(), 0);
        CHECK.due("owes(0) of 30", x.owes(0), 0);
        CHECK.due("owes(1) of 30", x.owes(1), 300);
        CHECK.due("pay(29, 1, 9)", x.pay(29, 1, 9), 1);
        CHECK.due("purse(0) of 30", x.purse(0), 9);
        CHECK.due("purse(1) of 30", x.purse(1), -9);
        CHECK.due("many(8) of 30", x.many(8), 291);
        CHECK.due("many(9) of 30", x.many(9), 9);
    }

    private static void stroke() {
        TiltLists x = withJoust("b1");
        for (int s = 0; s <= 6; s++) {
            CHECK.due("stroke " + s, x.stroke(0, 1, 3, s), s == 0 ? 6 : s - 1);
        }
        CHECK.due("the other sheet", x.sheet(0, 0, 2), 6);
        for (int course = 0; course < 6; course++) {
            CHECK.due("course " + course, x.stroke(0, 0, course, course), 6);
        }
        for (int course = 0; course < 6; course++) {
            CHECK.due("course " + course + " again", x.stroke(0, 0, course, 6), course);
        }
        CHECK.due("joust 1", x.stroke(1, 0, 0, 0), TiltLists.NUMBER);
        CHECK.due("side 2", x.stroke(0, 2, 0, 0), TiltLists.NUMBER);
        CHECK.due("course 6", x.stroke(0, 0, 6, 0), TiltLists.NUMBER);
        CHECK.due("stroke 7", x.stroke(0, 0, 0, 7), TiltLists.NUMBER);
        for (int v : Check.OUTSIDE) {
            CHECK.due("joust " + v, x.stroke(v, 0, 0, 0), TiltLists.NUMBER);
            CHECK.due("side " + v, x.stroke(0, v, 0, 0), TiltLists.NUMBER);
            CHECK.due("course " + v, x.stroke(0, 0, v, 0), TiltLists.NUMBER);
            CHECK.due("stroke " + v, x.stroke(0, 0, 0, v), TiltLists.NUMBER);
        }
        CHECK.due("refusals changed nothing", x.sheet(0, 0, 2), 6);
    }

    private static void copy() {
        TiltLists x = withJoust("b1");
        CHECK.due("the second joust", x.joust(2, 3), 1);
        Check.tell(x, 0, 0, "012345");
        Check.tell(x, 0, 1, "555555");
        CHECK.due("copy all", x.copy(0, 1, 0, 0, 0, 6), 6);
        sheetIs(x, 1, 0, "012345");
        sheetIs(x, 1, 1, "666666");
        CHECK.due("copy gaps", x.copy(1, 0, 1, 2, 1, 3), 3);
        sheetIs(x, 0, 1, "566655");
        CHECK.due("copy one", x.copy(0, 1, 0, 5, 0, 1), 1);
        sheetIs(x, 1, 0, "512345");
        sheetIs(x, 0, 0, "012345");
        CHECK.due("copy none", x.copy(0, 1, 0, 6, 0, 0), 0);
        CHECK.due("copy none to 6", x.copy(0, 1, 0, 0, 6, 0), 0);
        int[][] wrong = {
            {2, 0, 0, 0, 0, 1}, {0, 2, 0, 0, 0, 1}, {0, 1, 2, 0, 0, 1}, {0, 1, 0, 6, 0, 1}, {0, 1, 0, 0, 6, 1},
            {0, 1, 0, 0, 0, 7}, {0, 1, 0, 1, 0, 6}, {0, 1, 0, 0, 1, 6}, {0, 1, 0, 7, 0, 0}, {0, 1, 0, 0, 7, 0},
            {0, 1, 0, -1, 0, 1}, {0, 1, 0, 0, -1, 1}, {0, 1, 0, -1, 0, 0}, {0, 1, 0, 0, -1, 0}, {0, 1, 0, 3, 3, 4},
            {0, 1, 0, 1, 1, -1}};
        for (int[] w : wrong) {
            refuseCopy(x, w);
        }
        for (int v : Check.OUTSIDE) {
            for (int i = 0; i < 6; i++) {
                int[] w = {0, 1, 0, 0, 0, 1};
                w[i] = v;
                refuseCopy(x, w);
            }
        }
        sheetIs(x, 1, 0, "512345");
    }

    private static void refuseCopy(TiltLists x, int[] w) {
        CHECK.due("copy(" + java.util.Arrays.toString(w) + ")",
            x.copy(w[0], w[1], w[2], w[3], w[4], w[5]), TiltLists.NUMBER);
    }

    private static void copyOverItself() {
        TiltLists x = withJoust("b1");
        Check.tell(x, 0, 1, "012345");
        CHECK.due("copy up", x.copy(0, 0, 1, 0, 2, 4), 4);
        sheetIs(x, 0, 1, "010123");
        Check.tell(x, 0, 1, "012345");
        CHECK.due("copy down", x.copy(0, 0, 1, 1, 0, 5), 5);
        sheetIs(x, 0, 1, "123455");
        CHECK.due("copy in place", x.copy(0, 0, 1, 3, 3, 3), 3);
        sheetIs(x, 0, 1, "123455");
    }

    /** What each course holds, told by what stroke() answers as it puts the same. */
    private static void sheetIs(TiltLists x, int joust, int side, String due) {
        for (int i = 0; i < 6; i++) {
            int stroke = due.charAt(i) - '0';
            int was = x.stroke(joust, side, i, stroke);
            CHECK.due("course " + i + " of sheet " + joust + ", " + side, was, stroke);
            x.stroke(joust, side, i, was);
        }
    }

    private static void sheet() {
        TiltLists x = withJoust("b3h-4l10");
        sheetTells(x, -24, 60, 6, 0, 0, 0, 0, 0, 0);
        x.stroke(0, 0, 0, 2);
        sheetTells(x, -24, 46, 5, 0, 0, 1, 0, 0, 0);
        Check.tell(x, 0, 0, "123");
        sheetTells(x, -3, 39, 3, 0, 1, 1, 1, 0, 0);
        Check.tell(x, 0, 0, "004455");
        sheetTells(x, 0, 0, 0, 2, 0, 0, 0, 2, 2);
        x = withJoust("b5h5l5u5f5");
        sheetTells(x, 0, 30, 6, 0, 0, 0, 0, 0, 0);
        x = withJoust("b-5h-5l-5u-5f-99!b");
        sheetTells(x, -594, 0, 6, 0, 0, 0, 0, 0, 0);
        Check.tell(x, 0, 0, "111111");
        sheetTells(x, -30, -30, 0, 0, 6, 0, 0, 0, 0);
        CHECK.due("the other side", x.sheet(0, 1, 2), 6);
        CHECK.due("joust 1", x.sheet(1, 0, 0), TiltLists.NOTHING);
        CHECK.due("side 2", x.sheet(0, 2, 0), TiltLists.NOTHING);
        CHECK.due("what 9", x.sheet(0, 0, 9), TiltLists.NOTHING);
        for (int v : Check.OUTSIDE) {
            CHECK.due("joust " + v, x.sheet(v, 0, 0), TiltLists.NOTHING);
            CHECK.due("side " + v, x.sheet(0, v, 0), TiltLists.NOTHING);
            CHECK.due("what " + v, x.sheet(0, 0, v), TiltLists.NOTHING);
        }
    }

    private static void sheetTells(TiltLists x, int... due) {
        for (int what = 0; what < due.length; what++) {
            CHECK.due("sheet(0, 0, " + what + ")", x.sheet(0, 0, what), due[what]);
        }
    }

    private static void winsBy(String text, String one, String other, int first, int second) {
        TiltLists x = withJoust(text);
        Check.tell(x, 0, 0, one);
        Check.tell(x, 0, 1, other);
        CHECK.due("wins(0, 0) by " + text + ": " + one + " " + other, x.wins(0, 0), first);
        CHECK.due("wins(0, 1) by " + text + ": " + one + " " + other, x.wins(0, 1), second);
    }

    private static void wins() {
        winsBy("b1h2", "", "", 1, 1);
        winsBy("b0", "", "", 0, 0);
        winsBy("b1h2", "100000", "000000", 2, 0);
        winsBy("b1h2", "100000", "010000", 0, 0);
        winsBy("b1h2", "000020", "010000", 2, 0);
        winsBy("b1h2", "000026", "010000", 2, 0);
        winsBy("b1h2", "000026", "010006", 1, 1);
        winsBy("b1h2", "000026", "000006", 1, 0);
        winsBy("b1h2", "222222", "666666", 1, 0);
        winsBy("b1h2f-3", "222225", "500000", 2, 0);
        winsBy("b1h2f-3", "222226", "222220", 1, 1);
        winsBy("b-1h-2l-1u-1f-1", "111111", "666666", 1, 1);
        winsBy("b-1h-2l-1u-1f-1", "000000", "666661", 2, 0);
        winsBy("b5h5l5u5f5", "666666", "000000", 1, 0);
        winsBy("b-5h-5l-5u-5f-5", "000000", "666666", 1, 0);
        TiltLists x = withJoust("b1");
        CHECK.due("joust 1", x.wins(1, 0), TiltLists.NUMBER);
        CHECK.due("side 2", x.wins(0, 2), TiltLists.NUMBER);
        for (int v : Check.OUTSIDE) {
            CHECK.due("joust " + v, x.wins(v, 0), TiltLists.NUMBER);
            CHECK.due("side " + v, x.wins(0, v), TiltLists.NUMBER);
        }
    }

    private static void winsByTie() {
        winsBy("b1h2!b", "110000", "200000", 2, 0);
        winsBy("b1h2!h", "110000", "200000", 0, 2);
        winsBy("b1h2!u", "110000", "200000", 0, 0);
        winsBy("b1h2!u", "110400", "200000", 2, 0);
        winsBy("b1h2!u", "110400", "240000", 0, 0);
        // Like scores in any case, and one gap that may bring the stroke.
        winsBy("u0!u", "400000", "000006", 1, 0);
        winsBy("u0!u", "440000", "000006", 2, 0);
        winsBy("u0!u", "444444", "666666", 1, 0);
        winsBy("u0!u", "", "", 1, 1);
        // The stroke behind ! costs: a gap can't bring it without a lesser score.
        winsBy("u-1!u", "000000", "666666", 1, 0);
        winsBy("u-1!u", "400000", "600000", 0, 1);
        winsBy("u-1!u", "000000", "400006", 2, 0);
        // Of strokes of like worth a gap is the one that the ! counts, or is not.
        winsBy("b5u5!u", "600000", "100000", 1, 1);
        winsBy("b5u5!u", "600000", "400000", 0, 1);
        winsBy("b5u5!u", "400000", "100000", 2, 0);
        winsBy("b5u5!u", "400000", "600000", 1, 0);
        winsBy("b-5u-5!u", "600000", "100000", 1, 0);
        winsBy("b-5u-5!u", "600000", "400000", 1, 1);
        // The count matters only where scores are like.
        winsBy("b1!u", "100000", "444444", 2, 0);
        winsBy("b1!u", "444444", "000006", 1, 1);
        // No ! counts nothing, missed ones neither.
        winsBy("b1", "010000", "100000", 0, 0);
        winsBy("b1l0", "033333", "000000", 0, 0);
    }

    private static void won() {
        TiltLists x = withJoust("b1");
        CHECK.due("won(0) at first", x.won(0), 0);
        x.joust(1, 0);
        x.joust(0, 2);
        Check.tell(x, 0, 0, "100000");
        Check.tell(x, 0, 1, "000000");
        CHECK.due("won(0)", x.won(0), 1);
        Check.tell(x, 1, 0, "000000");
        Check.tell(x, 1, 1, "010000");
        CHECK.due("won(0) on side 1 too", x.won(0), 2);
        Check.tell(x, 2, 0, "100000");
        CHECK.due("won(0) but not surely", x.won(0), 2);
        CHECK.due("won(1)", x.won(1), 0);
        CHECK.due("won(2)", x.won(2), 0);
        x.stroke(0, 0, 0, 0);
        CHECK.due("won(0) no more", x.won(0), 1);
        CHECK.due("won(4)", x.won(4), TiltLists.NUMBER);
        for (int v : Check.OUTSIDE) {
            CHECK.due("won(" + v + ")", x.won(v), TiltLists.NUMBER);
        }
    }

    private static void best() {
        TiltLists x = new TiltLists();
        CHECK.due("best of none", x.best(), TiltLists.NONE);
        x = withJoust("b1");
        CHECK.due("fewest jousts, then the least", x.best(), 2);
        x.joust(2, 3);
        CHECK.due("all have one", x.best(), 0);
        Check.tell(x, 1, 1, "100000");
        Check.tell(x, 1, 0, "000000");
        CHECK.due("the most wins", x.best(), 3);
        Check.tell(x, 0, 1, "100000");
        Check.tell(x, 0, 0, "000000");
        CHECK.due("like wins, the least", x.best(), 1);
        x.joust(0, 1);
        CHECK.due("like wins, fewer jousts", x.best(), 3);
        Check.tell(x, 2, 1, "100000");
        Check.tell(x, 2, 0, "000000");
        CHECK.due("more wins, more jousts", x.best(), 1);
    }
}
