import java.util.Random;

/**
 * Random runs of 512 calls, which are as many as the document promises answers
 * for, on the class and on the model, which must answer alike.
 */
public final class ModelTest {
    private static final int RUNS = 400;
    private static final int CALLS = 512;
    private static final String TEXT = "bhluf-!019 mx";

    private static final Check CHECK = new Check("ModelTest");

    private final Random random;
    private final TiltLists x = new TiltLists();
    private final Model m = new Model();
    private final int run;
    /** How large the numbers of knights and jousts get that are mostly asked for. */
    private final int spread;
    private String coming = "";
    private int calls;

    private ModelTest(int run) {
        this.run = run;
        random = new Random(run);
        spread = 2 + random.nextInt(14);
    }

    public static void main(String[] args) {
        for (int run = 0; run < RUNS; run++) {
            ModelTest test = new ModelTest(run);
            // A step may be no call at all, or a text's many.
            for (int i = 0; i < 4 * CALLS && test.calls < CALLS; i++) {
                test.call();
            }
            CHECK.due("run " + run + " has all its calls", test.calls >= CALLS ? 1 : 0, 1);
        }
        CHECK.end();
    }

    private int below(int n) {
        return random.nextInt(n);
    }

    /** A number that mostly is 0 to n - 1, now and then a little or far off. */
    private int number(int n) {
        switch (below(60)) {
            case 0: return -1;
            case 1: return n;
            case 2: return random.nextInt();
            default: return below(n);
        }
    }

    private int knight() {
        return number(below(4) == 0 ? 14 : Math.min(14, spread));
    }

    private int joust() {
        return number(below(4) == 0 ? 30 : 4);
    }

    private void same(String call, int got, int due) {
        calls++;
        if (calls <= CALLS) {
            CHECK.due("run " + run + ", call " + calls + ": " + call, got, due);
        }
    }

    private void call() {
        int kind = below(100);
        if (kind < 20) {
            callOnKnights();
        } else if (kind < 40) {
            callOnTexts();
        } else if (kind < 70) {
            callOnJousts(below(12));
        } else if (kind < 78) {
            callOnRansoms();
        } else if (kind < 88) {
            callOnChallenges();
        } else {
            callOnCamp();
        }
    }

    private void callOnKnights() {
        int k = knight();
        int rank = number(4);
        // Few kinds of arms in some runs, so that many are near.
        int few = run % 3 == 0 ? 2 : 5;
        int field = number(few);
        int charge = number(2 * few);
        int tincture = number(few + 1);
        int what = number(6);
        switch (below(8)) {
            case 0: same("knight", x.knight(rank, field, charge, tincture), m.knight(rank, field, charge, tincture)); break;
            case 1: same("arms", x.arms(k, field, charge, tincture), m.arms(k, field, charge, tincture)); break;
            case 2: same("rank", x.rank(k, rank), m.rank(k, rank)); break;
            case 3: same("near", x.near(), m.near()); break;
            default: same("of " + k + ", " + what, x.of(k, what), m.of(k, what)); break;
        }
    }

    /** Most letters come from a sound text, some from none. */
    private int letters() {
        if (below(12) == 0) {
            return random.nextInt();
        }
        if (coming.isEmpty()) {
            coming = below(3) == 0 ? noise() : soundText();
        }
        int n = Math.min(coming.length(), 1 + below(4));
        int v = 0;
        for (int i = 0; i < n; i++) {
            v |= coming.charAt(i) << (8 * i);
        }
        coming = coming.substring(n);
        return v;
    }

    private String noise() {
        StringBuilder sb = new StringBuilder();
        for (int i = below(6); i >= 0; i--) {
            sb.append(TEXT.charAt(below(TEXT.length())));
        }
        return sb.toString();
    }

    private String soundText() {
        StringBuilder sb = new StringBuilder();
        for (int i = 0; i < 5; i++) {
            if (below(2) == 0) {
                sb.append(TEXT.charAt(i)).append(below(2) == 0 ? "-" : "").append(below(below(2) == 0 ? 3 : 100));
            }
        }
        if (below(2) == 0) {
            sb.append('!').append(TEXT.charAt(below(5)));
        }
        return sb.length() == 0 ? "b0" : sb.toString();
    }

    private void callOnTexts() {
        int o = number(6);
        int stroke = number(7);
        switch (below(8)) {
            case 0: same("ordain", x.ordain(), m.ordain()); break;
            case 1: {
                if (below(3) == 0) {
                    same("scrap", x.scrap(), m.scrap());
                    coming = "";
                }
                break;
            }
            case 2: same("force " + o, x.force(o), m.force(o)); break;
            case 3: same("worth", x.worth(o, stroke), m.worth(o, stroke)); break;
            case 4: wholeText(); break;
            default: {
                int v = letters();
                same("feed " + v, x.feed(v), m.feed(v));
            }
        }
    }

    private void wholeText() {
        if (below(6) != 0 && run % 5 != 0) {
            return;
        }
        same("scrap", x.scrap(), m.scrap());
        coming = soundText();
        for (int i = 0; i < 20 && !coming.isEmpty(); i++) {
            int v = letters();
            same("feed " + v, x.feed(v), m.feed(v));
        }
        same("ordain", x.ordain(), m.ordain());
    }

    private void callOnJousts(int kind) {
        int j = joust();
        int side = number(2);
        int course = number(6);
        int stroke = number(7);
        int k = knight();
        int what = number(9);
        switch (kind) {
            case 0: {
                int o = knight();
                same("joust", x.joust(k, o), m.joust(k, o));
                break;
            }
            case 1: {
                int o = joust();
                int n = number(7);
                int to = number(7);
                same("copy", x.copy(j, o, side, course, to, n), m.copy(j, o, side, course, to, n));
                break;
            }
            case 2: same("sheet " + what, x.sheet(j, side, what), m.sheet(j, side, what)); break;
            case 3: case 4: same("wins " + j + ", " + side, x.wins(j, side), m.wins(j, side)); break;
            case 5: same("won " + k, x.won(k), m.won(k)); break;
            case 6: {
                if (below(4) == 0) {
                    same("best", x.best(), m.best());
                }
                break;
            }
            default: same("stroke", x.stroke(j, side, course, stroke), m.stroke(j, side, course, stroke)); break;
        }
    }

    private void callOnRansoms() {
        int k = knight();
        int j = joust();
        int side = number(2);
        int v = 1 + number(20);
        switch (below(4)) {
            case 0: same("owes " + k, x.owes(k), m.owes(k)); break;
            case 1: same("purse " + k, x.purse(k), m.purse(k)); break;
            default: same("pay " + j + ", " + side + ", " + v, x.pay(j, side, v), m.pay(j, side, v)); break;
        }
    }

    private void callOnChallenges() {
        int c = number(7);
        int k = knight();
        int o = knight();
        switch (below(8)) {
            case 0: same("withdraw", x.withdraw(), m.withdraw()); break;
            case 1: same("turns", x.turns(), m.turns()); break;
            case 2: case 3: same("turn " + c, x.turn(c), m.turn(c)); break;
            default: same("challenge", x.challenge(k, o), m.challenge(k, o)); break;
        }
    }

    private void callOnCamp() {
        int i = number(7);
        int k = knight();
        int o = knight();
        int what = number(10);
        boolean is = below(run % 4 + 2) != 0;
        switch (below(4)) {
            case 0: same("tent " + i, x.tent(i), m.tent(i)); break;
            case 1: same("many " + what, x.many(what), m.many(what)); break;
            default: same("feud " + is, x.feud(k, o, is), m.feud(k, o, is)); break;
        }
    }
}
