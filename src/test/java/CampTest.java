/** Promises 26 to 28: feud, tent, many. */
public final class CampTest {
    private static final Check CHECK = new Check("CampTest");

    public static void main(String[] args) {
        feud();
        smallRings();
        rings();
        whoHasTents();
        tentNumbers();
        many();
        CHECK.end();
    }

    private static void feud() {
        TiltLists x = new TiltLists();
        CHECK.due("no knights", x.feud(0, 1, true), TiltLists.NUMBER);
        x = Check.withKnights(14);
        CHECK.due("no feud is not new", x.feud(0, 13, false), 0);
        CHECK.due("a feud", x.feud(0, 13, true), 1);
        CHECK.due("again", x.feud(0, 13, true), 0);
        CHECK.due("turned", x.feud(13, 0, true), 0);
        CHECK.due("another one", x.feud(12, 13, true), 1);
        CHECK.due("many(5)", x.many(5), 2);
        CHECK.due("no more", x.feud(13, 0, false), 1);
        CHECK.due("no more, again", x.feud(0, 13, false), 0);
        CHECK.due("many(5)", x.many(5), 1);
        CHECK.due("with itself", x.feud(3, 3, true), TiltLists.NUMBER);
        CHECK.due("with itself, none", x.feud(3, 3, false), TiltLists.NUMBER);
        CHECK.due("knight 14", x.feud(14, 0, true), TiltLists.NUMBER);
        CHECK.due("other 14", x.feud(0, 14, true), TiltLists.NUMBER);
        for (int v : Check.OUTSIDE) {
            CHECK.due("feud(" + v + ", 0)", x.feud(v, 0, true), TiltLists.NUMBER);
            CHECK.due("feud(0, " + v + ")", x.feud(0, v, false), TiltLists.NUMBER);
        }
        CHECK.due("many(5) behind refusals", x.many(5), 1);
        for (int i = 0; i < 14; i++) {
            for (int k = i + 1; k < 14; k++) {
                CHECK.due("feud of all", x.feud(k, i, true), i == 12 ? 0 : 1);
            }
        }
        CHECK.due("many(5) of all", x.many(5), 91);
    }

    /** Feuds as pairs of figures; due are the tents, none of them where there is no camp. */
    private static void ringOf(int knights, String feuds, int... due) {
        TiltLists x = Check.withKnights(knights);
        for (int i = 0; i + 1 < feuds.length(); i += 3) {
            x.feud(feuds.charAt(i) - '0', feuds.charAt(i + 1) - '0', true);
        }
        campIs(x, knights + " knights, feuds " + feuds, due);
    }

    private static void campIs(TiltLists x, String what, int... due) {
        for (int i = 0; i < 7; i++) {
            CHECK.due("tent(" + i + ") of " + what, x.tent(i), i < due.length ? due[i] : TiltLists.NONE);
        }
    }

    private static void smallRings() {
        ringOf(0, "");
        ringOf(1, "", 0);
        ringOf(2, "", 0, 1);
        ringOf(2, "01");
        ringOf(3, "", 0, 1, 2);
        ringOf(3, "01");
        ringOf(3, "12");
        ringOf(4, "12", 0, 1, 3, 2);
        ringOf(4, "01 23", 0, 2, 1, 3);
        ringOf(4, "01 12");
    }

    private static void rings() {
        ringOf(7, "", 0, 1, 2, 3, 4, 5, 6);
        // The last one is beside the first one.
        ringOf(7, "06", 0, 1, 2, 3, 4, 6, 5);
        ringOf(5, "04 03", 0, 1, 3, 4, 2);
        ringOf(6, "01 12 23 34 45 50", 0, 2, 4, 1, 5, 3);
        ringOf(7, "01 02 03 04", 0, 5, 1, 2, 3, 4, 6);
        ringOf(7, "01 02 03 04 05");
        ringOf(7, "34 35 36", 0, 1, 3, 2, 4, 5, 6);
        TiltLists x = Check.withKnights(4);
        x.rank(2, 1);
        campIs(x, "rank 1 of knight 2", 2, 0, 1, 3);
        x.rank(3, 3);
        campIs(x, "rank 3 of knight 3", 3, 0, 1, 2);
        x.feud(3, 0, true);
        campIs(x, "a feud of 3 and 0", 3, 1, 0, 2);
        x.feud(3, 0, false);
        campIs(x, "no feud", 3, 0, 1, 2);
    }

    private static void whoHasTents() {
        TiltLists x = Check.withKnights(14);
        campIs(x, "14 of like rank", 0, 1, 2, 3, 4, 5, 6);
        x.rank(13, 1);
        x.rank(9, 2);
        x.rank(10, 1);
        campIs(x, "14 of unlike ranks", 9, 0, 1, 2, 3, 10, 13);
        // Feuds of those who have no tent don't matter.
        x.feud(9, 4, true);
        x.feud(5, 6, true);
        campIs(x, "feuds of others", 9, 0, 1, 2, 3, 10, 13);
        x.feud(13, 9, true);
        campIs(x, "a feud of two with tents", 9, 0, 1, 2, 3, 13, 10);
        x.rank(0, 3);
        campIs(x, "another first one", 0, 1, 2, 3, 9, 10, 13);
    }

    private static void tentNumbers() {
        TiltLists x = Check.withKnights(9);
        CHECK.due("tent(6)", x.tent(6), 6);
        CHECK.due("tent(7)", x.tent(7), TiltLists.NUMBER);
        for (int v : Check.OUTSIDE) {
            CHECK.due("tent(" + v + ")", x.tent(v), TiltLists.NUMBER);
        }
        CHECK.due("NUMBER ahead of NONE", new TiltLists().tent(7), TiltLists.NUMBER);
    }

    private static void many() {
        TiltLists x = Check.withKnights(5);
        x.knight(3, 0, 0, 5);
        Check.ordain(x, "b1");
        Check.ordain(x, "b2");
        x.force(0);
        x.joust(1, 2);
        x.joust(1, 3);
        x.joust(1, 4);
        x.challenge(0, 1);
        x.challenge(0, 2);
        x.challenge(0, 3);
        x.challenge(0, 4);
        x.feud(0, 1, true);
        Check.feed(x, "b1h2l3!");
        x.stroke(0, 0, 0, 4);
        x.stroke(1, 1, 0, 4);
        x.pay(0, 1, 3);
        x.pay(1, 0, 8);
        int[] due = {6, 2, 0, 3, 4, 1, 7, 5, 9, 11};
        for (int what = 0; what < due.length; what++) {
            CHECK.due("many(" + what + ")", x.many(what), due[what]);
        }
        CHECK.due("many(10)", x.many(10), -1);
        for (int v : Check.OUTSIDE) {
            CHECK.due("many(" + v + ")", x.many(v), -1);
        }
    }
}
