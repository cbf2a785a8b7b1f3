/** The boundary cases of term 3 and of promises 12 to 18, sentence by sentence. */
public final class JoustsBoundsTest {
    private static final Bounds BOUNDS = new Bounds("JoustsBoundsTest");
    private static final int NUMBER = TiltLists.NUMBER;
    private static final int NOTHING = TiltLists.NOTHING;

    public static void main(String[] args) {
        thirtyAtMost();
        whoCanRideAsItComes();
        ordinanceInForceThen();
        allGapsAtFirst();
        leastAndGreatestScores();
        surelyWhateverTheGapsAre();
        likeScores();
        mayWinIfThereIsAWay();
        joustNumbers();
        joustSame();
        joustNone();
        joustYields();
        joustFull();
        strokeNumbers();
        strokeTellsWhatItWas();
        copyNumbers();
        copyCourses();
        copyNothing();
        copyAsTheyWere();
        sheetNumbers();
        winsNumbers();
        wonNumbers();
        bestNone();
        bestOfAll();
        bestOfSeveral();
        BOUNDS.end();
    }

    /** A joust of knights 0 and 1 with its two sheets told, as far as they go. */
    private static TiltLists told(String text, String one, String other) {
        TiltLists x = Check.withKnights(3);
        Check.ordain(x, text);
        x.joust(0, 1);
        Check.tell(x, 0, 0, one);
        Check.tell(x, 0, 1, other);
        return x;
    }

    private static void winsDue(String text, String one, String other, int first, int second) {
        TiltLists x = told(text, one, other);
        String what = ") by " + text + ": " + one + " " + other;
        BOUNDS.due("wins(0, 0" + what, x.wins(0, 0), first);
        BOUNDS.due("wins(0, 1" + what, x.wins(0, 1), second);
        BOUNDS.due("won(0" + what, x.won(0), first == 2 ? 1 : 0);
        BOUNDS.due("won(1" + what, x.won(1), second == 2 ? 1 : 0);
    }

    /** Term 3: "numbered from 0, 30 at most". */
    private static void thirtyAtMost() {
        TiltLists x = Settings.withJousts(0);
        for (int i = 0; i < 30; i++) {
            BOUNDS.due("joust " + i, x.joust(i % 2, 1 - i % 2), i);
            BOUNDS.due("many(3) with joust " + i, x.many(3), i + 1);
        }
        BOUNDS.due("joust 30", x.joust(0, 1), TiltLists.FULL);
        BOUNDS.due("many(3) with 30", x.many(3), 30);
    }

    /** Term 3: "of two KNIGHTS who CAN RIDE (as it comes)": later ones may yield. */
    private static void whoCanRideAsItComes() {
        TiltLists x = told("b1", "111111", "000000");
        x.arms(1, 0, 0, 0);
        x.rank(1, 3);
        BOUNDS.due("of(0, 4) of one who yields by now", x.of(0, 4), 0);
        BOUNDS.due("won(0) stays", x.won(0), 1);
        BOUNDS.due("stroke stays", x.stroke(0, 0, 0, 4), 1);
        BOUNDS.due("owes(1)", x.owes(1), 40);
        BOUNDS.due("a new joust", x.joust(0, 2), TiltLists.YIELDS);
        x.arms(1, 5, 5, 5);
        BOUNDS.due("a new joust with other arms", x.joust(0, 2), 1);
    }

    /** Term 3: "its ORDINANCE is that IN FORCE then". */
    private static void ordinanceInForceThen() {
        TiltLists x = Settings.withOrdinances(6);
        x.knight(0, 0, 0, 0);
        x.knight(0, 1, 1, 1);
        for (int i = 0; i < 6; i++) {
            x.force(5 - i);
            BOUNDS.due("joust by " + (5 - i), x.joust(0, 1), i);
        }
        x.force(0);
        for (int i = 0; i < 6; i++) {
            BOUNDS.due("HIGH of joust " + i, x.sheet(i, 0, 1), 6 * (6 - i));
            BOUNDS.due("LOW of joust " + i, x.sheet(i, 0, 0), 0);
        }
    }

    /** Term 3: "or a GAP (6; all at first)". */
    private static void allGapsAtFirst() {
        TiltLists x = Settings.withJousts(30);
        for (int j = 0; j < 30; j++) {
            for (int side = 0; side < 2; side++) {
                BOUNDS.due("gaps of " + j + ", " + side, x.sheet(j, side, 2), 6);
                BOUNDS.due("strokes 4 of " + j + ", " + side, x.sheet(j, side, 7), 0);
            }
        }
        for (int course = 0; course < 6; course++) {
            BOUNDS.due("course " + course + " at first", x.stroke(29, 1, course, 0), 6);
        }
    }

    /** Term 3: "LOW and HIGH are the least and the greatest SCORES that there may be". */
    private static void leastAndGreatestScores() {
        scores("b99h-99", "", -594, 594);
        scores("b99h-99", "111111", 594, 594);
        scores("b99h-99", "222222", -594, -594);
        scores("b99h-99", "11111", 396, 594);
        scores("b99h-99", "22222", -594, -396);
        // A gap may be missed: it need not cost, nor bring, where all that is named does.
        scores("b5h6l7u8f9", "", 0, 54);
        scores("b-5h-6l-7u-8f-9", "", -54, 0);
        scores("b5h6l7u8f9!b", "55555", 45, 54);
        scores("b-5h-6l-7u-8f-9!b", "55555", -54, -45);
        // Nor need it be named: of five strokes of worth 0 each gap may be one.
        scores("b1", "16", 1, 6);
        scores("b-1!b", "16", -6, -1);
        // What the ! counts is no part of a score.
        scores("u0!u", "444444", 0, 0);
        scores("u-1!u", "444444", -6, -6);
        scores("u-1!u", "4", -6, -1);
        scores("u0!u", "", 0, 0);
    }

    private static void scores(String text, String sheet, int low, int high) {
        TiltLists x = told(text, sheet, "");
        BOUNDS.due("LOW by " + text + ": " + sheet, x.sheet(0, 0, 0), low);
        BOUNDS.due("HIGH by " + text + ": " + sheet, x.sheet(0, 0, 1), high);
        TiltLists y = told(text, "", sheet);
        BOUNDS.due("LOW of side 1 by " + text + ": " + sheet, y.sheet(0, 1, 0), low);
        BOUNDS.due("HIGH of side 1 by " + text + ": " + sheet, y.sheet(0, 1, 1), high);
    }

    /** Term 3: "WINS SURELY if, whatever the GAPS of both are, its SCORE is the greater one". */
    private static void surelyWhateverTheGapsAre() {
        winsDue("b1h3", "200000", "110000", 2, 0);
        winsDue("b1h3", "200000", "111000", 0, 0);
        winsDue("b1h3", "200000", "111100", 0, 2);
        // Its own gap and the other one's, each at the edge of what it may change.
        winsDue("b1h3", "200006", "110000", 2, 0);
        winsDue("b1h3", "200006", "111000", 1, 0);
        winsDue("b1h3", "200006", "111100", 1, 1);
        winsDue("b1h3", "221000", "200006", 2, 0);
        winsDue("b1h3", "220000", "200006", 1, 0);
        winsDue("b1h3", "211000", "200006", 1, 1);
        winsDue("b1h3", "666666", "666666", 1, 1);
        // Gaps may all be missed, though every stroke that is named brings something, or costs something.
        winsDue("b5h5l5u5f5", "666666", "000000", 1, 0);
        winsDue("b-5h-5l-5u-5f-5", "000000", "666666", 1, 0);
        winsDue("b99h-99", "111111", "666666", 1, 0);
        winsDue("b99h-99", "111111", "666660", 2, 0);
        winsDue("b99h-99", "222222", "666666", 0, 1);
        winsDue("b99h-99", "222222", "666660", 0, 2);
    }

    /** Term 3: "or like, and (by !) it has more of that STROKE". */
    private static void likeScores() {
        winsDue("b1h2", "110000", "200000", 0, 0);
        winsDue("b1h2!b", "110000", "200000", 2, 0);
        winsDue("b1h2!h", "110000", "200000", 0, 2);
        winsDue("b1h2!f", "110000", "200000", 0, 0);
        winsDue("b1h2!f", "110005", "200000", 2, 0);
        winsDue("b1h2!f", "110005", "200055", 0, 2);
        winsDue("b1h2!f", "110055", "200055", 0, 0);
        // All six of them against none weigh less than one point of the score.
        winsDue("b1!f", "555555", "100000", 0, 2);
        winsDue("b0!f", "555555", "000000", 2, 0);
        winsDue("b0", "555555", "000000", 0, 0);
        winsDue("f-1!f", "500000", "000000", 0, 2);
        // Missed ones are no stroke behind a !, also where there is none.
        winsDue("b1", "000000", "333333", 0, 0);
    }

    /** Term 3: "it MAY WIN if there is a way for the GAPS so that it does". */
    private static void mayWinIfThereIsAWay() {
        winsDue("b0", "666666", "666666", 0, 0);
        winsDue("b0!b", "666666", "666666", 1, 1);
        winsDue("b0!b", "666666", "111111", 0, 1);
        winsDue("b0!b", "166666", "111110", 1, 1);
        winsDue("b0!b", "600000", "000000", 1, 0);
        winsDue("b0!b", "600000", "100000", 0, 1);
        winsDue("b2h2!h", "600000", "200000", 0, 1);
        winsDue("b2h2!h", "600000", "100000", 1, 1);
        winsDue("b-2h-2!h", "600000", "100000", 1, 0);
        // A gap that is missed costs nothing; one that is none of the counted costs as much as one that is.
        winsDue("b-2h-2l-2u-2f-2!h", "266666", "222222", 1, 1);
        winsDue("b-2h-2l-2u-2f-2!h", "266666", "111111", 2, 0);
        winsDue("b-2h-2l-2u-2f-2!h", "666666", "111111", 1, 0);
        winsDue("b-2h-2l-2u-2f-2!h", "222222", "666666", 1, 1);
    }

    /** Promise 12: "NUMBER: there is no such KNIGHT (either)". */
    private static void joustNumbers() {
        BOUNDS.range("joust's knight", Settings::tourney, 0, 4, NUMBER, (x, v) -> x.joust(v, v == 2 ? 4 : 2));
        BOUNDS.range("joust's other", Settings::tourney, 0, 4, NUMBER, (x, v) -> x.joust(v == 2 ? 4 : 2, v));
        BOUNDS.range("joust of fourteen", JoustsBoundsTest::fourteen, 0, 13, NUMBER, (x, v) -> x.joust(v, (v + 1) % 14));
        BOUNDS.range("joust of such alone", Settings::tourney, 0, -1, NUMBER, (x, v) -> x.joust(v, ~v));
    }

    private static TiltLists fourteen() {
        TiltLists x = Settings.fullOfKnights();
        Check.ordain(x, "b1");
        return x;
    }

    /** Promise 12: "or they are the same". */
    private static void joustSame() {
        for (int k = 0; k <= 4; k++) {
            int same = k;
            BOUNDS.refused("joust of " + k + " with itself", Settings::tourney, NUMBER, x -> x.joust(same, same));
            BOUNDS.refused("without an ordinance", Settings::fullOfKnights, NUMBER, x -> x.joust(same, same));
        }
    }

    /** Promise 12: "NONE: no ORDINANCE is IN FORCE", behind NUMBER and ahead of YIELDS. */
    private static void joustNone() {
        BOUNDS.refused("joust without an ordinance", () -> Check.withKnights(2), TiltLists.NONE, x -> x.joust(0, 1));
        BOUNDS.refused("NONE ahead of YIELDS", JoustsBoundsTest::twoAlike, TiltLists.NONE, x -> x.joust(1, 0));
        BOUNDS.refused("NUMBER ahead of NONE", () -> Check.withKnights(2), NUMBER, x -> x.joust(0, 2));
        BOUNDS.refused("NUMBER ahead of NONE", () -> Check.withKnights(2), NUMBER, x -> x.joust(-1, 0));
    }

    private static TiltLists twoAlike() {
        TiltLists x = new TiltLists();
        x.knight(0, 0, 0, 0);
        x.knight(0, 0, 0, 0);
        return x;
    }

    /** Promise 12: "YIELDS": either one, be it first or second. */
    private static void joustYields() {
        for (int k : new int[] {0, 1, 2, 4}) {
            int rider = k;
            BOUNDS.refused("joust of 3 with " + k, Settings::tourney, TiltLists.YIELDS, x -> x.joust(3, rider));
            BOUNDS.refused("joust of " + k + " with 3", Settings::tourney, TiltLists.YIELDS, x -> x.joust(rider, 3));
        }
        BOUNDS.refused("NUMBER ahead of YIELDS", Settings::tourney, NUMBER, x -> x.joust(3, 3));
        BOUNDS.refused("NUMBER ahead of YIELDS", Settings::tourney, NUMBER, x -> x.joust(3, 5));
    }

    /** Promise 12: "FULL", behind all others. */
    private static void joustFull() {
        BOUNDS.refused("joust 30", () -> Settings.withJousts(30), TiltLists.FULL, x -> x.joust(0, 1));
        BOUNDS.refused("joust 30 of others", () -> Settings.withJousts(30), TiltLists.FULL, x -> x.joust(2, 1));
        BOUNDS.refused("YIELDS ahead of FULL", () -> Settings.withJousts(30), TiltLists.YIELDS, x -> x.joust(2, 3));
        BOUNDS.refused("NUMBER ahead of FULL", () -> Settings.withJousts(30), NUMBER, x -> x.joust(2, 4));
        BOUNDS.refused("NUMBER ahead of FULL", () -> Settings.withJousts(30), NUMBER, x -> x.joust(2, 2));
        BOUNDS.due("joust 29", Settings.withJousts(29).joust(0, 1), 29);
    }

    /** Promise 13: "NUMBER: there is no such JOUST, side, course (0 to 5), or stroke isn't 0 to 6." */
    private static void strokeNumbers() {
        BOUNDS.range("stroke's joust", Settings::tourney, 0, 2, NUMBER, (x, v) -> x.stroke(v, 1, 3, 2));
        BOUNDS.range("stroke's joust of 30", () -> Settings.withJousts(30), 0, 29, NUMBER, (x, v) -> x.stroke(v, 1, 3, 2));
        BOUNDS.range("stroke's side", Settings::tourney, 0, 1, NUMBER, (x, v) -> x.stroke(1, v, 3, 2));
        BOUNDS.range("stroke's course", Settings::tourney, 0, 5, NUMBER, (x, v) -> x.stroke(1, 1, v, 2));
        BOUNDS.range("stroke", Settings::tourney, 0, 6, NUMBER, (x, v) -> x.stroke(1, 1, 3, v));
    }

    /** Promise 13: "A STROKE (or GAP) of a SHEET: what it was." */
    private static void strokeTellsWhatItWas() {
        for (int from = 0; from <= 6; from++) {
            for (int to = 0; to <= 6; to++) {
                TiltLists x = Settings.withJousts(1);
                x.stroke(0, 1, 5, from);
                BOUNDS.due("stroke from " + from + " to " + to, x.stroke(0, 1, 5, to), from);
                BOUNDS.due("stroke then", x.stroke(0, 1, 5, 6), to);
                BOUNDS.due("the course beside it", x.stroke(0, 1, 4, 0), 6);
                BOUNDS.due("the other side", x.stroke(0, 0, 5, 0), 6);
            }
        }
    }

    /** Promise 14: "NUMBER: there is no such JOUST (either), side". */
    private static void copyNumbers() {
        BOUNDS.range("copy's joust", Settings::tourney, 0, 2, NUMBER, (x, v) -> x.copy(v, 1, 0, 0, 0, 2));
        BOUNDS.range("copy's other", Settings::tourney, 0, 2, NUMBER, (x, v) -> x.copy(1, v, 0, 0, 0, 2));
        BOUNDS.range("copy's side", Settings::tourney, 0, 1, NUMBER, (x, v) -> x.copy(1, 0, v, 0, 0, 2));
        BOUNDS.range("copy's joust with n 0", Settings::tourney, 0, 2, NUMBER, (x, v) -> x.copy(v, 1, 0, 0, 0, 0));
        BOUNDS.range("copy's other with n 0", Settings::tourney, 0, 2, NUMBER, (x, v) -> x.copy(1, v, 0, 0, 0, 0));
        BOUNDS.range("copy's side with n 0", Settings::tourney, 0, 1, NUMBER, (x, v) -> x.copy(1, 0, v, 0, 0, 0));
    }

    /** Promise 14: "or a COURSE would be none (n is 0 to 6 ..)". */
    private static void copyCourses() {
        for (int n = 0; n <= 6; n++) {
            int many = n;
            BOUNDS.range("copy of " + n + ", from", Settings::tourney, 0, 6 - n, NUMBER,
                (x, v) -> x.copy(0, 1, 0, v, 0, many));
            BOUNDS.range("copy of " + n + ", to", Settings::tourney, 0, 6 - n, NUMBER,
                (x, v) -> x.copy(0, 1, 0, 0, v, many));
            BOUNDS.range("copy of n from " + n, Settings::tourney, 0, 6 - n, NUMBER,
                (x, v) -> x.copy(0, 1, 0, many, 0, v));
            BOUNDS.range("copy of n to " + n, Settings::tourney, 0, 6 - n, NUMBER,
                (x, v) -> x.copy(0, 1, 0, 0, many, v));
        }
    }

    /** Promise 14: "with n 0 from and to are 0 to 6". */
    private static void copyNothing() {
        for (int from = 0; from <= 6; from++) {
            for (int to = 0; to <= 6; to++) {
                TiltLists x = Settings.tourney();
                BOUNDS.due("copy of 0 from " + from + " to " + to, x.copy(0, 1, 0, from, to, 0), 0);
                BOUNDS.unchanged("copy of 0", Settings::tourney, x);
            }
        }
        BOUNDS.refused("copy of 0 from 7", Settings::tourney, NUMBER, x -> x.copy(0, 1, 0, 7, 0, 0));
        BOUNDS.refused("copy of 0 to 7", Settings::tourney, NUMBER, x -> x.copy(0, 1, 0, 0, 7, 0));
    }

    /** Promise 14: "(another one or the same), from to on, as they were": over itself too. */
    private static void copyAsTheyWere() {
        for (int n = 1; n <= 6; n++) {
            for (int from = 0; from + n <= 6; from++) {
                for (int to = 0; to + n <= 6; to++) {
                    copied(0, from, to, n);
                    copied(1, from, to, n);
                }
            }
        }
    }

    private static void copied(int other, int from, int to, int n) {
        String source = "516304";
        String target = other == 0 ? source : "264511";
        TiltLists x = Settings.withJousts(2);
        Check.tell(x, 1, 1, "264511");
        Check.tell(x, 0, 1, source);
        String what = "copy from " + from + " to " + to + " of " + n;
        BOUNDS.due(what, x.copy(0, other, 1, from, to, n), n);
        String due = target.substring(0, to) + source.substring(from, from + n) + target.substring(to + n);
        for (int course = 0; course < 6; course++) {
            BOUNDS.due(what + ", course " + course, x.stroke(other, 1, course, 6), due.charAt(course) - '0');
            BOUNDS.due(what + ", the other side", x.stroke(other, 0, course, 0), 6);
            if (other != 0) {
                BOUNDS.due(what + ", the source", x.stroke(0, 1, course, 6), source.charAt(course) - '0');
            }
        }
    }

    /** Promise 15: "NOTHING: there is no such JOUST, side, another what." */
    private static void sheetNumbers() {
        for (int what = 0; what <= 8; what++) {
            int w = what;
            BOUNDS.range("sheet's joust, " + w, Settings::tourney, 0, 2, NOTHING, (x, v) -> x.sheet(v, 0, w));
            BOUNDS.range("sheet's side, " + w, Settings::tourney, 0, 1, NOTHING, (x, v) -> x.sheet(1, v, w));
        }
        BOUNDS.range("sheet of 30", () -> Settings.withJousts(30), 0, 29, NOTHING, (x, v) -> x.sheet(v, 1, 2));
        BOUNDS.range("sheet's what", Settings::tourney, 0, 8, NOTHING, (x, v) -> x.sheet(1, 0, v));
        TiltLists x = told("b1", "012345", "666666");
        for (int k = 0; k <= 5; k++) {
            BOUNDS.due("one of stroke " + k, x.sheet(0, 0, 3 + k), 1);
            BOUNDS.due("none of stroke " + k, x.sheet(0, 1, 3 + k), 0);
        }
        BOUNDS.due("no gap", x.sheet(0, 0, 2), 0);
        BOUNDS.due("six gaps", x.sheet(0, 1, 2), 6);
    }

    /** Promise 16: "NUMBER: there is no such JOUST, side." */
    private static void winsNumbers() {
        BOUNDS.range("wins' joust", Settings::tourney, 0, 2, NUMBER, (x, v) -> x.wins(v, 0));
        BOUNDS.range("wins' joust of 30", () -> Settings.withJousts(30), 0, 29, NUMBER, (x, v) -> x.wins(v, 1));
        BOUNDS.range("wins' side", Settings::tourney, 0, 1, NUMBER, (x, v) -> x.wins(1, v));
    }

    /** Promise 17: "NUMBER: there is none such." And none, and thirty, may be won. */
    private static void wonNumbers() {
        BOUNDS.range("won of five", Settings::tourney, 0, 4, NUMBER, TiltLists::won);
        BOUNDS.range("won of fourteen", Settings::fullOfKnights, 0, 13, NUMBER, TiltLists::won);
        TiltLists x = Settings.withJousts(30);
        Check.tell(x, 0, 0, "111111");
        Check.tell(x, 0, 1, "000000");
        for (int j = 1; j < 30; j++) {
            BOUNDS.due("won(0) with " + j, x.won(0), j);
            x.copy(0, j, 0, 0, 0, 6);
            BOUNDS.due("won(0) that is not sure", x.won(0), j);
            x.copy(0, j, 1, 0, 0, 6);
        }
        BOUNDS.due("won(0) of thirty", x.won(0), 30);
        BOUNDS.due("won(1) of thirty", x.won(1), 0);
        BOUNDS.due("won(2) without jousts", x.won(2), 0);
    }

    /** Promise 18: "NONE: there are no KNIGHTS." */
    private static void bestNone() {
        BOUNDS.refused("best of none", TiltLists::new, TiltLists.NONE, TiltLists::best);
        BOUNDS.refused("with an ordinance", () -> Settings.withOrdinances(1), TiltLists.NONE, TiltLists::best);
        BOUNDS.due("best of one", Check.withKnights(1).best(), 0);
        BOUNDS.due("best of fourteen without jousts", Settings.fullOfKnights().best(), 0);
    }

    /** Promise 18: "The KNIGHT with the most JOUSTS that it WINS SURELY": the first, the last, and each between. */
    private static void bestOfAll() {
        for (int k = 0; k < 10; k++) {
            TiltLists x = Check.withKnights(10);
            Check.ordain(x, "b1");
            x.joust((k + 1) % 10, k);
            Check.tell(x, 0, 1, "111111");
            Check.tell(x, 0, 0, "000000");
            BOUNDS.due("best where " + k + " won", x.best(), k);
            x.stroke(0, 0, 0, 1);
            BOUNDS.due("best where " + k + " won by less", x.best(), k);
        }
    }

    /** Promise 18: "of several that with the fewest JOUSTS in all, of several the least". */
    private static void bestOfSeveral() {
        TiltLists x = Settings.withJousts(1);
        BOUNDS.due("the least of those without jousts", x.best(), 2);
        x.joust(2, 0);
        BOUNDS.due("one without jousts who can't ride", x.best(), 3);
        x.arms(3, 5, 5, 5);
        x.joust(3, 1);
        BOUNDS.due("the least of those with one joust", x.best(), 2);
        x.joust(2, 3);
        BOUNDS.due("the least of all with two", x.best(), 0);
        Check.tell(x, 3, 1, "400000");
        Check.tell(x, 3, 0, "000000");
        BOUNDS.due("the one who won", x.best(), 3);
        Check.tell(x, 1, 0, "400000");
        Check.tell(x, 1, 1, "000000");
        BOUNDS.due("the least of two who won", x.best(), 2);
        x.joust(2, 1);
        BOUNDS.due("the one with fewer jousts", x.best(), 3);
        Check.tell(x, 4, 0, "400000");
        Check.tell(x, 4, 1, "000000");
        BOUNDS.due("the one who won more, in more jousts", x.best(), 2);
    }
}
