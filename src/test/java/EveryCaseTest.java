/**
 * Small cases, every one of them, on the class and on the model, which tries all
 * ways: texts, sheets, challenges and feuds at all the edges that these have.
 */
public final class EveryCaseTest {
    private static final Check CHECK = new Check("EveryCaseTest");

    public static void main(String[] args) {
        texts("bh-0!x", 5);
        texts("u1!", 6);
        texts("lf9-", 5);
        for (String law : new String[] {"b1", "b1!b", "b1!f", "b1h-1!b", "b-1!b", "b0!u", "b1h1!h", "b-1h-1!h",
            "b1h1l1u1f1!l", "b-1h-1l-1u-1f-1!l", "b2h1u-2f-1!f", "b99h-99!h"}) {
            sheets(law);
        }
        plans();
        rings();
        CHECK.end();
    }

    /** All texts of these letters up to a length. */
    private static void texts(String letters, int longest) {
        int count = 1;
        for (int length = 0; length <= longest; length++) {
            for (int i = 0; i < count; i++) {
                StringBuilder text = new StringBuilder();
                for (int k = 0, rest = i; k < length; k++, rest /= letters.length()) {
                    text.append(letters.charAt(rest % letters.length()));
                }
                text(text.toString());
            }
            count *= letters.length();
        }
    }

    private static void text(String text) {
        TiltLists x = new TiltLists();
        Model m = new Model();
        for (int i = 0; i < text.length(); i++) {
            x.feed(text.charAt(i));
            m.feed(text.charAt(i));
        }
        int due = m.ordain();
        CHECK.due("ordain " + text, x.ordain(), due);
        for (int stroke = 0; due == 0 && stroke <= 6; stroke++) {
            CHECK.due("worth " + stroke + " of " + text, x.worth(0, stroke), m.worth(0, stroke));
        }
    }

    /** All two sheets of which two courses are told or gaps, and the others missed. */
    private static void sheets(String law) {
        for (int i = 0; i < 7 * 7; i++) {
            for (int k = 0; k < 7 * 7; k++) {
                if (i / 7 <= i % 7 && k / 7 <= k % 7) {
                    sheets(law, new int[] {i / 7, i % 7}, new int[] {k / 7, k % 7});
                }
            }
        }
    }

    private static void sheets(String law, int[] one, int[] other) {
        TiltLists x = Check.withKnights(2);
        Check.ordain(x, law);
        x.joust(0, 1);
        Model m = new Model();
        m.knight(0, 0, 0, 0);
        m.knight(0, 1, 1, 1);
        for (char letter : law.toCharArray()) {
            m.feed(letter);
        }
        m.ordain();
        m.joust(0, 1);
        for (int course = 0; course < 6; course++) {
            int first = course < 2 ? one[course] : 0;
            int second = course < 2 ? other[course] : 0;
            x.stroke(0, 0, course, first);
            m.stroke(0, 0, course, first);
            x.stroke(0, 1, course, second);
            m.stroke(0, 1, course, second);
        }
        String what = law + ": " + one[0] + one[1] + " " + other[0] + other[1];
        for (int side = 0; side < 2; side++) {
            CHECK.due("wins " + side + " by " + what, x.wins(0, side), m.wins(0, side));
            CHECK.due("LOW " + side + " by " + what, x.sheet(0, side, 0), m.sheet(0, side, 0));
            CHECK.due("HIGH " + side + " by " + what, x.sheet(0, side, 1), m.sheet(0, side, 1));
        }
    }

    /** All rows of up to five challenges of five knights, with a first one of 0 and 1. */
    private static void plans() {
        int[][] pairs = new int[10][];
        int n = 0;
        for (int k = 0; k < 5; k++) {
            for (int o = 0; o < k; o++) {
                pairs[n++] = new int[] {k, o};
            }
        }
        for (int i = 0; i < 10 * 10 * 10 * 10; i++) {
            plan(pairs[0], pairs[i % 10], pairs[i / 10 % 10], pairs[i / 100 % 10], pairs[i / 1000]);
        }
    }

    private static void plan(int[]... pairs) {
        TiltLists x = Check.withKnights(5);
        Model m = new Model();
        StringBuilder what = new StringBuilder();
        for (int k = 0; k < 5; k++) {
            m.knight(0, k, k, k);
        }
        for (int[] pair : pairs) {
            what.append(' ').append(pair[0]).append(pair[1]);
            // The same two are refused here and there, so that shorter rows come too.
            CHECK.due("challenge in" + what, x.challenge(pair[0], pair[1]), m.challenge(pair[1], pair[0]));
        }
        CHECK.due("turns of" + what, x.turns(), m.turns());
        for (int i = 0; i <= m.many(4); i++) {
            CHECK.due("turn " + i + " of" + what, x.turn(i), m.turn(i));
        }
    }

    /** All feuds of up to five knights, with each of them as the first. */
    private static void rings() {
        for (int n = 0; n <= 5; n++) {
            for (int feuds = 0; feuds < 1 << (n * (n - 1) / 2); feuds++) {
                for (int first = 0; first < Math.max(n, 1); first++) {
                    ring(n, feuds, first);
                }
            }
        }
    }

    private static void ring(int n, int feuds, int first) {
        TiltLists x = Check.withKnights(n);
        Model m = new Model();
        for (int k = 0; k < n; k++) {
            m.knight(0, k, k, k);
        }
        x.rank(first, 1);
        m.rank(first, 1);
        int bit = 0;
        for (int k = 0; k < n; k++) {
            for (int o = 0; o < k; o++) {
                boolean is = (feuds >> bit & 1) != 0;
                CHECK.due("feud", x.feud(k, o, is), m.feud(k, o, is));
                bit++;
            }
        }
        for (int i = 0; i < 7; i++) {
            CHECK.due("tent " + i + " of " + n + ", feuds " + feuds + ", first " + first, x.tent(i), m.tent(i));
        }
    }
}
