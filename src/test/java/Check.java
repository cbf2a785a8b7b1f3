/** Counts the answers that are not as due; the tests' common ground. */
final class Check {
    static final int[] OUTSIDE = {-1, -2, -100, Integer.MIN_VALUE, Integer.MAX_VALUE, 1 << 30, 1000};

    private final String test;
    private int asked;
    private int wrong;

    Check(String test) {
        this.test = test;
    }

    void due(String call, long got, long want) {
        asked++;
        if (got != want) {
            wrong++;
            System.out.println(test + ": " + call + " answered " + got + ", due is " + want);
        }
    }

    void end() {
        System.out.println(asked + " answers, " + wrong + " not as due");
        if (wrong != 0 || asked == 0) {
            System.exit(1);
        }
    }

    /** Feeds a text, four letters a call; the last answer. */
    static int feed(TiltLists x, String text) {
        int answer = x.many(6);
        for (int i = 0; i < text.length(); i += 4) {
            int v = 0;
            for (int k = 0; k < 4 && i + k < text.length(); k++) {
                v |= (text.charAt(i + k) & 255) << (8 * k);
            }
            answer = x.feed(v);
        }
        return answer;
    }

    /** Feeds a text and ordains it. */
    static int ordain(TiltLists x, String text) {
        feed(x, text);
        return x.ordain();
    }

    /** So many knights of rank 0 whose arms are not near: knights 0 to 9 all can ride. */
    static TiltLists withKnights(int n) {
        TiltLists x = new TiltLists();
        for (int i = 0; i < n; i++) {
            x.knight(0, i % 6, i % 10, (i + i / 6) % 6);
        }
        return x;
    }

    /** Tells the courses of a sheet: a figure each. */
    static void tell(TiltLists x, int joust, int side, String strokes) {
        for (int i = 0; i < strokes.length(); i++) {
            x.stroke(joust, side, i, strokes.charAt(i) - '0');
        }
    }
}
