/**
 * All that calls tell of an object, as one text: two objects with the same
 * readout hold the same. To tell strokes, riders, what is paid, letters, feuds
 * and challenges the reading changes them, so it is an object's last use. It
 * takes some 450 calls at most: of many jousts it reads the first and the last.
 */
final class Readout {
    private final TiltLists x;
    private final int knights;
    private final int[] jousts;
    private final StringBuilder told = new StringBuilder();

    private Readout(TiltLists x) {
        this.x = x;
        knights = x.many(0);
        jousts = somesOf(x.many(3));
    }

    static String of(TiltLists x) {
        Readout r = new Readout(x);
        r.readCounts();
        r.readKnights();
        r.readOrdinances();
        r.readSheets();
        r.readPlanAndCamp();
        r.takeLetters();
        r.takeStrokes();
        r.takePayments();
        r.takePairs();
        return r.told.toString();
    }

    private static int[] somesOf(int size) {
        if (size > 3) {
            return new int[] {0, size - 1};
        }
        int[] all = new int[size];
        for (int i = 0; i < size; i++) {
            all[i] = i;
        }
        return all;
    }

    private void tell(String call, int answer) {
        told.append(call).append(' ').append(answer).append('\n');
    }

    private void readCounts() {
        for (int what = 0; what <= 9; what++) {
            tell("many " + what, x.many(what));
        }
        tell("near", x.near());
        tell("best", x.best());
        tell("turns", x.turns());
    }

    private void readKnights() {
        for (int k = 0; k < knights; k++) {
            for (int what = 0; what <= 5; what++) {
                tell("of " + k + " " + what, x.of(k, what));
            }
            tell("won " + k, x.won(k));
            tell("owes " + k, x.owes(k));
            tell("purse " + k, x.purse(k));
        }
    }

    private void readOrdinances() {
        for (int o = 0; o < x.many(1); o++) {
            for (int stroke = 0; stroke <= 6; stroke++) {
                tell("worth " + o + " " + stroke, x.worth(o, stroke));
            }
        }
    }

    private void readSheets() {
        for (int j : jousts) {
            for (int side = 0; side < 2; side++) {
                tell("low " + j + " " + side, x.sheet(j, side, 0));
                tell("high " + j + " " + side, x.sheet(j, side, 1));
                tell("wins " + j + " " + side, x.wins(j, side));
            }
        }
    }

    private void readPlanAndCamp() {
        for (int i = 0; i < 7; i++) {
            tell("turn " + i, x.turn(i));
            tell("tent " + i, x.tent(i));
        }
    }

    /** A text that lacks its last item's worth is made whole, so that its worths tell its letters. */
    private void takeLetters() {
        tell("ordain", x.ordain());
        tell("feed", Check.feed(x, "2!u"));
        int o = x.ordain();
        tell("ordain", o);
        for (int stroke = 0; stroke <= 6; stroke++) {
            tell("worth of the text " + stroke, x.worth(o, stroke));
        }
    }

    private void takeStrokes() {
        for (int j : jousts) {
            for (int side = 0; side < 2; side++) {
                for (int course = 0; course < 6; course++) {
                    tell("stroke " + j + " " + side + " " + course, x.stroke(j, side, course, 4));
                }
            }
        }
    }

    /** Everybody is unhorsed now: 40 less what is paid is owed, and purses tell who pays whom. */
    private void takePayments() {
        for (int k = 0; k < knights && jousts.length > 0; k++) {
            x.rank(k, 3);
        }
        for (int j : jousts) {
            for (int side = 0; side < 2; side++) {
                tell("pay " + j + " " + side, x.pay(j, side, 1));
                for (int k = 0; k < Math.min(knights, 5); k++) {
                    tell("purse " + k, x.purse(k));
                }
            }
        }
    }

    private void takePairs() {
        for (int k = 0; k < knights; k++) {
            for (int o = 0; o < k; o++) {
                tell("feud " + k + " " + o, x.feud(k, o, false));
                tell("challenge " + k + " " + o, x.challenge(k, o));
            }
        }
    }
}
