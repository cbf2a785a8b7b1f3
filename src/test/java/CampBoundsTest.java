/** The boundary cases of term 5 and of promises 26 to 28, sentence by sentence. */
public final class CampBoundsTest {
    private static final Bounds BOUNDS = new Bounds("CampBoundsTest");
    private static final int NUMBER = TiltLists.NUMBER;
    private static final int NONE = TiltLists.NONE;

    public static void main(String[] args) {
        sevenAtMost();
        greatestRankFirst();
        notBesideOneAnother();
        lastIsBesideTheFirst();
        beginsWithTheFirst();
        leastNumberAtTheFirstUnlikePlace();
        ringOfOneOrTwo();
        feudNumbers();
        feudSame();
        feudNewOrNot();
        tentNumbers();
        tentNone();
        tentNoCamp();
        manyNumbers();
        manyAtTheLimits();
        BOUNDS.end();
    }

    private static void camp(String what, TiltLists x, int... due) {
        for (int i = 0; i < 7; i++) {
            BOUNDS.due("tent(" + i + ") of " + what, x.tent(i), i < due.length ? due[i] : NONE);
        }
    }

    /** Knights of rank 0 and feuds as pairs of figures. */
    private static TiltLists feuding(int knights, String feuds) {
        TiltLists x = Check.withKnights(knights);
        for (int i = 0; i + 1 < feuds.length(); i += 3) {
            x.feud(feuds.charAt(i) - '0', feuds.charAt(i + 1) - '0', true);
        }
        return x;
    }

    private static void ring(int knights, String feuds, int... due) {
        camp(knights + " knights, feuds " + feuds, feuding(knights, feuds), due);
    }

    /** Term 5: "7 at most of these .. the others have no tent". */
    private static void sevenAtMost() {
        for (int n = 0; n <= 14; n++) {
            TiltLists x = Check.withKnights(n);
            for (int i = 0; i < 7; i++) {
                BOUNDS.due("tent(" + i + ") of " + n, x.tent(i), i < n ? i : NONE);
            }
        }
        // One who has no tent may be in feud with all.
        TiltLists x = Check.withKnights(8);
        for (int k = 0; k < 7; k++) {
            x.feud(7, k, true);
        }
        camp("eight", x, 0, 1, 2, 3, 4, 5, 6);
        x.rank(7, 1);
        camp("eight, the last one with a tent", x);
    }

    /** Term 5: "those with the greatest RANK first, of like ones the least number". */
    private static void greatestRankFirst() {
        TiltLists x = Settings.fullOfKnights();
        // Ranks are 0 1 2 3 0 1 2 3 0 1 2 3 0 1: of rank 3 are 3, 7, 11; of rank 2 are 2, 6, 10; of rank 1 is 1.
        camp("fourteen", x, 3, 1, 2, 6, 7, 10, 11);
        x.rank(13, 2);
        camp("another one of rank 2", x, 3, 2, 6, 7, 10, 11, 13);
        x.rank(12, 2);
        camp("one of rank 2 too many", x, 3, 2, 6, 7, 10, 11, 12);
        x.rank(3, 2);
        camp("another first one", x, 7, 2, 3, 6, 10, 11, 12);
    }

    /** Term 5: "KNIGHTS in FEUD are not beside one another". */
    private static void notBesideOneAnother() {
        ring(4, "12", 0, 1, 3, 2);
        ring(5, "12 23 34", 0, 2, 4, 1, 3);
        ring(7, "34 35 36", 0, 1, 3, 2, 4, 5, 6);
        ring(3, "12");
        ring(4, "12 13");
    }

    /** Term 5: "a ring": the last one is beside the first one. */
    private static void lastIsBesideTheFirst() {
        ring(3, "02");
        ring(4, "03", 0, 1, 3, 2);
        ring(5, "04", 0, 1, 2, 4, 3);
        ring(7, "06", 0, 1, 2, 3, 4, 6, 5);
        ring(7, "06 05 04 03", 0, 1, 3, 4, 5, 6, 2);
        ring(7, "06 05 04 03 02");
    }

    /** Term 5: "It begins with the first of these in that order", whatever its number. */
    private static void beginsWithTheFirst() {
        for (int k = 0; k < 7; k++) {
            TiltLists x = Check.withKnights(7);
            x.rank(k, 3);
            BOUNDS.due("tent(0) with rank 3 of " + k, x.tent(0), k);
            BOUNDS.due("tent(1) with rank 3 of " + k, x.tent(1), k == 0 ? 1 : 0);
            BOUNDS.due("tent(6) with rank 3 of " + k, x.tent(6), k == 6 ? 5 : 6);
        }
    }

    /** Term 5: "whose KNIGHT, at the first place at which they are unlike, has the least number". */
    private static void leastNumberAtTheFirstUnlikePlace() {
        ring(4, "", 0, 1, 2, 3);
        ring(4, "01", 0, 2, 1, 3);
        ring(6, "01 12 23 34 45 50", 0, 2, 4, 1, 5, 3);
        // By number, not by rank, behind the first.
        TiltLists x = Check.withKnights(4);
        x.rank(3, 2);
        x.rank(2, 3);
        camp("ranks 0 0 3 2", x, 2, 0, 1, 3);
    }

    /** Term 5: "A ring of one, or of two who have no FEUD, may be." */
    private static void ringOfOneOrTwo() {
        ring(1, "", 0);
        ring(2, "", 0, 1);
        ring(2, "01");
        TiltLists x = feuding(2, "01");
        x.rank(1, 1);
        camp("two in feud", x);
        x.feud(1, 0, false);
        camp("two who are in feud no more", x, 1, 0);
    }

    /** Promise 26: "NUMBER: there is no such KNIGHT (either)". */
    private static void feudNumbers() {
        for (boolean is : new boolean[] {true, false}) {
            BOUNDS.range("feud's knight, " + is, Settings::tourney, 0, 4, NUMBER, (x, v) -> x.feud(v, v == 2 ? 1 : 2, is));
            BOUNDS.range("feud's other, " + is, Settings::tourney, 0, 4, NUMBER, (x, v) -> x.feud(v == 2 ? 1 : 2, v, is));
            BOUNDS.range("feud of fourteen, " + is, Settings::fullOfKnights, 0, 13, NUMBER,
                (x, v) -> x.feud(v, (v + 1) % 14, is));
        }
    }

    /** Promise 26: "or they are the same". */
    private static void feudSame() {
        for (int k = 0; k < 14; k++) {
            int same = k;
            BOUNDS.refused("feud with itself", Settings::fullOfKnights, NUMBER, x -> x.feud(same, same, true));
            BOUNDS.refused("none with itself", Settings::fullOfKnights, NUMBER, x -> x.feud(same, same, false));
        }
    }

    /** Promise 26: "A FEUD, or none: 1 if that is new, else 0": for each two of fourteen. */
    private static void feudNewOrNot() {
        TiltLists x = Check.withKnights(14);
        int feuds = 0;
        for (int k = 0; k < 14; k++) {
            for (int o = 0; o < k; o++) {
                BOUNDS.due("a feud of " + k + " and " + o, x.feud(k, o, true), 1);
                BOUNDS.due("the same turned", x.feud(o, k, true), 0);
                feuds++;
                BOUNDS.due("many(5)", x.many(5), feuds);
            }
        }
        TiltLists y = Check.withKnights(14);
        for (int k = 0; k < 14; k++) {
            for (int o = 0; o < k; o++) {
                BOUNDS.due("no feud of " + k + " and " + o, y.feud(o, k, false), 0);
                y.feud(o, k, true);
                BOUNDS.due("no feud any more", y.feud(k, o, false), 1);
                BOUNDS.due("many(5) without", y.many(5), 0);
            }
        }
    }

    /** Promise 27: "NUMBER: i isn't 0 to 6", ahead of NONE. */
    private static void tentNumbers() {
        BOUNDS.range("tent of fourteen", Settings::fullOfKnights, 0, 6, NUMBER, TiltLists::tent);
        BOUNDS.range("tent of five", Settings::tourney, 0, 6, NUMBER, TiltLists::tent);
        BOUNDS.range("tent of none", TiltLists::new, 0, 6, NUMBER, TiltLists::tent);
        BOUNDS.range("tent of no camp", () -> feuding(2, "01"), 0, 6, NUMBER, TiltLists::tent);
    }

    /** Promise 27: "NONE: there is none such". */
    private static void tentNone() {
        for (int n = 0; n <= 7; n++) {
            int there = n;
            for (int i = n; i < 7; i++) {
                int tent = i;
                BOUNDS.refused("tent " + i + " of " + n, () -> Check.withKnights(there), NONE, x -> x.tent(tent));
            }
        }
    }

    /** Promise 27: "or no CAMP": all tents are none then. */
    private static void tentNoCamp() {
        for (int n = 2; n <= 7; n++) {
            TiltLists x = Check.withKnights(n);
            camp("a camp of " + n, x, java.util.stream.IntStream.range(0, n).toArray());
            for (int k = 1; k < n; k++) {
                x.feud(0, k, true);
            }
            camp("no camp of " + n, x);
            // With two of them the first one may stand between.
            x.feud(0, n - 1, false);
            x.feud(0, 1, false);
            BOUNDS.due("tent(0) of a camp again", x.tent(0), 0);
            BOUNDS.due("tent(1) of a camp again", x.tent(1), 1);
            BOUNDS.due("the last tent", x.tent(n - 1), n - 1);
        }
    }

    /** Promise 28: "-1 for another what". */
    private static void manyNumbers() {
        BOUNDS.range("many", Settings::tourney, 0, 9, -1, TiltLists::many);
        BOUNDS.range("many of a new object", TiltLists::new, 0, 9, -1, TiltLists::many);
    }

    /** Promise 28: each what where there are as many as may be; "2 the one IN FORCE (-2: none)". */
    private static void manyAtTheLimits() {
        BOUNDS.due("many(0)", Settings.fullOfKnights().many(0), 14);
        BOUNDS.due("many(1)", Settings.withOrdinances(6).many(1), 6);
        BOUNDS.due("many(2)", Settings.withOrdinances(6).many(2), 5);
        BOUNDS.due("many(2) of none", Settings.fullOfKnights().many(2), -2);
        BOUNDS.due("many(3)", Settings.withJousts(30).many(3), 30);
        BOUNDS.due("many(4)", Settings.withChallenges(7).many(4), 7);
        BOUNDS.due("many(6)", Settings.withLetters(60).many(6), 60);
        BOUNDS.due("many(7) of ten unlike", Check.withKnights(10).many(7), 10);
        TiltLists x = new TiltLists();
        for (int k = 0; k < 14; k++) {
            x.knight(k / 4, 0, 0, 0);
        }
        BOUNDS.due("many(7) of fourteen alike", x.many(7), 1);
        TiltLists y = Settings.withJousts(30);
        y.rank(0, 3);
        y.rank(1, 3);
        for (int j = 0; j < 30; j++) {
            y.stroke(j, 0, 0, 4);
            y.stroke(j, 1, 5, 4);
        }
        BOUNDS.due("many(8) at most", y.many(8), 2400);
        for (int j = 0; j < 30; j++) {
            y.pay(j, 0, 40);
            y.pay(j, 1, 40);
        }
        BOUNDS.due("many(8) when all is paid", y.many(8), 0);
        BOUNDS.due("many(9) at most", y.many(9), 2400);
    }
}
