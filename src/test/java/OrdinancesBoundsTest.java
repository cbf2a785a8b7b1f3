/** The boundary cases of term 2 and of promises 7 to 11, sentence by sentence. */
public final class OrdinancesBoundsTest {
    private static final Bounds BOUNDS = new Bounds("OrdinancesBoundsTest");
    private static final String ALL = "b-99h-99l-99u-99f-99!f";

    public static void main(String[] args) {
        oneOrMoreItems();
        nothingBetween();
        noLetterTwice();
        perhapsLess();
        oneOrTwoFigures();
        worthOfThoseNotNamed();
        missedAlwaysNothing();
        tieAsTheLast();
        letterThatCantStandThere();
        endsTooSoon();
        sixAtMost();
        noneInForceAtFirst();
        feedUpToTheFirstNothing();
        feedFull();
        ordainNothing();
        ordainFault();
        ordainFull();
        scrapLetters();
        forceNumbers();
        worthNumbers();
        worthBehindTie();
        BOUNDS.end();
    }

    private static void sound(String text, int stroke, int worth) {
        TiltLists x = new TiltLists();
        BOUNDS.due("ordain " + text, Check.ordain(x, text), 0);
        BOUNDS.due("worth " + stroke + " of " + text, x.worth(0, stroke), worth);
        BOUNDS.due("letters behind " + text, x.many(6), 0);
    }

    private static TiltLists fed(String text) {
        TiltLists x = new TiltLists();
        Check.feed(x, text);
        return x;
    }

    private static void faulty(String text, int place) {
        BOUNDS.refused("ordain " + text, () -> fed(text), TiltLists.FAULT - place, TiltLists::ordain);
    }

    /** Term 2: "one or more ITEMS". */
    private static void oneOrMoreItems() {
        faulty("", 0);
        faulty("!b", 0);
        sound("b1", 1, 1);
        sound("b1h2l3u4f5", 5, 5);
        sound(ALL, 5, -99);
    }

    /** Term 2: "one behind the other, nothing between". */
    private static void nothingBetween() {
        for (String between : new String[] {" ", ",", ";", "\n", "\t", "+", "-", "!", ".", "m"}) {
            faulty("b1" + between + "h2", between.equals("!") ? 4 : 2);
            faulty("b12" + between + "h2", between.equals("!") ? 5 : 3);
            faulty(between + "b1", 0);
        }
        sound("b1h2", 2, 2);
    }

    /** Term 2: "no letter twice". */
    private static void noLetterTwice() {
        String letters = "bhluf";
        for (int i = 0; i < 5; i++) {
            char c = letters.charAt(i);
            faulty(c + "1" + c + "1", 2);
            faulty("b1h1l1u1f1" + c + "1", 10);
            // Behind the ! it may stand once more.
            sound("b1h1l1u1f1!" + c, 6, i + 1);
        }
    }

    /** Term 2: "then perhaps -". */
    private static void perhapsLess() {
        sound("u-7", 4, -7);
        sound("u7", 4, 7);
        sound("u-0", 4, 0);
        faulty("u--7", 2);
        faulty("u7-", 2);
        faulty("u-", 2);
        faulty("-u7", 0);
    }

    /** Term 2: "then one or two figures: WORTH of that STROKE". */
    private static void oneOrTwoFigures() {
        for (int worth = 0; worth <= 99; worth++) {
            sound("l" + worth, 3, worth);
            sound("l-" + worth, 3, -worth);
            sound("l" + worth / 10 + worth % 10, 3, worth);
            faulty("l" + worth / 10 + worth % 10 + "0", 3);
            faulty("l-" + worth / 10 + worth % 10 + "9", 4);
        }
        faulty("l", 1);
        faulty("lh1", 1);
        faulty("l-h1", 2);
        faulty("l!b", 1);
    }

    /** Term 2: "WORTH of those that no ITEM names is 0", whatever was read before. */
    private static void worthOfThoseNotNamed() {
        String letters = "bhluf";
        for (int named = 1; named <= 5; named++) {
            TiltLists x = new TiltLists();
            Check.ordain(x, ALL);
            Check.ordain(x, "b9h9l9u9f9!f!");
            x.scrap();
            Check.ordain(x, letters.charAt(named - 1) + "8");
            for (int stroke = 0; stroke <= 6; stroke++) {
                BOUNDS.due("worth " + stroke + " where " + named + " is named", x.worth(1, stroke),
                    stroke == named ? 8 : 0);
            }
        }
    }

    /** Term 2: "of m (missed) always 0". */
    private static void missedAlwaysNothing() {
        sound(ALL, 0, 0);
        faulty("m1", 0);
        faulty("m0", 0);
        faulty("b1m0", 2);
        faulty("b1!m", 3);
    }

    /** Term 2: "Then perhaps ! and one of these letters, as the last". */
    private static void tieAsTheLast() {
        String letters = "bhluf";
        for (int i = 0; i < 5; i++) {
            String text = "b1!" + letters.charAt(i);
            sound(text, 6, i + 1);
            for (String behind : new String[] {"b", "h2", "1", "-", "!", "!b", " "}) {
                faulty(text + behind, 4);
            }
        }
        sound("b1", 6, 0);
        faulty("b1!", 3);
        faulty("b1!!b", 3);
    }

    /** Term 2: "the first letter that can't stand there": of all letters at each kind of place. */
    private static void letterThatCantStandThere() {
        lettersBehind("", "bhluf");
        lettersBehind("b", "-0123456789");
        lettersBehind("b-", "0123456789");
        lettersBehind("b1", "0123456789hluf!");
        lettersBehind("b12", "hluf!");
        lettersBehind("b-1", "0123456789hluf!");
        lettersBehind("b-12", "hluf!");
        lettersBehind("b1h2l3u4f5", "0123456789!");
        lettersBehind("b1h2l3u4f55", "!");
        lettersBehind("b1!", "bhluf");
        lettersBehind("b1!h", "");
        lettersBehind(ALL, "");
    }

    private static void lettersBehind(String text, String may) {
        for (int letter = 1; letter <= 255; letter++) {
            TiltLists x = new TiltLists();
            int answer = Check.ordain(x, text + (char) letter);
            boolean isFaultThere = answer == TiltLists.FAULT - text.length();
            BOUNDS.due("letter " + letter + " behind " + text + " answered " + answer, isFaultThere ? 1 : 0,
                may.indexOf(letter) < 0 ? 1 : 0);
        }
    }

    /** Term 2: "or how many letters there are, if it ends too soon". */
    private static void endsTooSoon() {
        for (int n = 0; n <= ALL.length(); n++) {
            String text = ALL.substring(0, n);
            boolean isWhole = n > 0 && (Character.isDigit(ALL.charAt(n - 1)) || n == ALL.length());
            if (isWhole) {
                sound(text, 0, 0);
            } else {
                faulty(text, n);
            }
        }
        // The longest text that may be has 22 letters; a longer one is faulty behind those.
        for (int n = 1; n <= 38; n++) {
            faulty(ALL + "b".repeat(n), 22);
        }
    }

    /** Term 2: "ORDINANCES are numbered from 0, 6 at most". */
    private static void sixAtMost() {
        TiltLists x = new TiltLists();
        for (int i = 0; i < 6; i++) {
            BOUNDS.due("ordinance " + i, Check.ordain(x, "b" + i), i);
            BOUNDS.due("many(1) with " + i, x.many(1), i + 1);
            BOUNDS.due("many(2) with " + i, x.many(2), i);
        }
        BOUNDS.due("ordinance 6", Check.ordain(x, "b6"), TiltLists.FULL);
        for (int i = 0; i < 6; i++) {
            BOUNDS.due("worth by ordinance " + i, x.worth(i, 1), i);
        }
    }

    /** Term 2: "one is IN FORCE (none at first)". */
    private static void noneInForceAtFirst() {
        TiltLists x = Check.withKnights(2);
        BOUNDS.due("many(2) at first", x.many(2), -2);
        BOUNDS.due("ordain with a fault", Check.ordain(x, "b"), TiltLists.FAULT - 1);
        BOUNDS.due("many(2) behind a fault", x.many(2), -2);
        BOUNDS.due("joust at first", x.joust(0, 1), TiltLists.NONE);
        BOUNDS.due("ordain", Check.ordain(x, "1"), 0);
        BOUNDS.due("many(2) then", x.many(2), 0);
        BOUNDS.due("joust then", x.joust(0, 1), 0);
    }

    /** Promise 7: "the bytes of v, the lowest one first, up to the first one that is 0". */
    private static void feedUpToTheFirstNothing() {
        int[] bytes = {0, 1, 0x7f, 0x80, 0xff};
        for (int i = 0; i < 5 * 5 * 5 * 5; i++) {
            int[] four = {bytes[i % 5], bytes[i / 5 % 5], bytes[i / 25 % 5], bytes[i / 125]};
            int due = 0;
            while (due < 4 && four[due] != 0) {
                due++;
            }
            int v = four[0] | four[1] << 8 | four[2] << 16 | four[3] << 24;
            TiltLists x = new TiltLists();
            BOUNDS.due("feed(" + v + ")", x.feed(v), due);
            BOUNDS.due("letters of " + v, x.many(6), due);
        }
        TiltLists x = new TiltLists();
        x.feed('b' | '4' << 8 | '2' << 24);
        x.feed('7' | '9' << 16);
        BOUNDS.due("ordain what stands ahead of a 0", x.ordain(), 0);
        BOUNDS.due("its worth", x.worth(0, 1), 47);
    }

    /** Promise 7: "FULL: there would be more than 60." */
    private static void feedFull() {
        for (int there = 55; there <= 60; there++) {
            int n = there;
            for (int more = 0; more <= 4; more++) {
                int v = more == 0 ? 0 : 0x31313131 >>> (8 * (4 - more));
                String what = more + " letters behind " + there;
                if (there + more > 60) {
                    BOUNDS.refused(what, () -> Settings.withLetters(n), TiltLists.FULL, x -> x.feed(v));
                } else {
                    TiltLists x = Settings.withLetters(n);
                    BOUNDS.due(what, x.feed(v), there + more);
                    BOUNDS.due("many(6) of " + what, x.many(6), there + more);
                }
            }
        }
        BOUNDS.refused("four letters of 255 behind 57", () -> Settings.withLetters(57), TiltLists.FULL, x -> x.feed(-1));
        BOUNDS.due("a first byte 0 behind 60", Settings.withLetters(60).feed(0x31313100), 60);
        BOUNDS.due("two bytes and a 0 behind 58", Settings.withLetters(58).feed(0x31003131), 60);
    }

    /** Promise 8: "What is fed becomes an ORDINANCE (nothing is fed then)": nothing, and twice. */
    private static void ordainNothing() {
        BOUNDS.refused("ordain nothing", TiltLists::new, TiltLists.FAULT, TiltLists::ordain);
        TiltLists x = fed("b1");
        BOUNDS.due("ordain", x.ordain(), 0);
        BOUNDS.due("many(6) then", x.many(6), 0);
        BOUNDS.due("ordain again", x.ordain(), TiltLists.FAULT);
        BOUNDS.due("scrap then", x.scrap(), 0);
        BOUNDS.due("many(1) then", x.many(1), 1);
    }

    /** Promise 8: "FAULT less its place (what is fed stays)". */
    private static void ordainFault() {
        BOUNDS.refused("ordain b1h", Settings::tourney, TiltLists.FAULT - 3, TiltLists::ordain);
        TiltLists x = fed("b1h");
        BOUNDS.due("ordain", x.ordain(), TiltLists.FAULT - 3);
        BOUNDS.due("what stays may go on", x.feed('3'), 4);
        BOUNDS.due("ordain", x.ordain(), 0);
        BOUNDS.due("worth of b", x.worth(0, 1), 1);
        BOUNDS.due("worth of h", x.worth(0, 2), 3);
        BOUNDS.due("ordain 60 letters", Settings.withLetters(60).ordain(), TiltLists.FAULT);
    }

    /** Promise 8: "FULL (ahead of FAULT)". */
    private static void ordainFull() {
        for (String text : new String[] {"", "b1", "b", "x", ALL, ALL + "b"}) {
            BOUNDS.refused("a seventh ordinance from " + text, () -> sixAnd(text), TiltLists.FULL, TiltLists::ordain);
        }
    }

    private static TiltLists sixAnd(String text) {
        TiltLists x = Settings.withOrdinances(6);
        Check.feed(x, text);
        x.force(2);
        return x;
    }

    /** Promise 9: "Nothing is fed any more: how many letters were." */
    private static void scrapLetters() {
        for (int n = 0; n <= 60; n++) {
            TiltLists x = Settings.withLetters(n);
            BOUNDS.due("scrap of " + n, x.scrap(), n);
            BOUNDS.due("many(6) then", x.many(6), 0);
            BOUNDS.due("scrap again", x.scrap(), 0);
            BOUNDS.due("feed then", x.feed(0x31313131), 4);
        }
    }

    /** Promise 10: "NUMBER: there is none such." */
    private static void forceNumbers() {
        for (int n = 0; n <= 6; n++) {
            int there = n;
            BOUNDS.range("force of " + n, () -> Settings.withOrdinances(there), 0, n - 1, TiltLists.NUMBER,
                TiltLists::force);
        }
        TiltLists x = Settings.withOrdinances(6);
        for (int i = 0; i < 6; i++) {
            BOUNDS.due("force(" + i + ")", x.force(i), 1);
            BOUNDS.due("many(2) then", x.many(2), i);
            BOUNDS.due("force(" + i + ") again", x.force(i), 1);
        }
    }

    /** Promise 11: "NOTHING: there is none such, another stroke." */
    private static void worthNumbers() {
        for (int n = 0; n <= 6; n++) {
            int there = n;
            BOUNDS.range("worth of " + n, () -> Settings.withOrdinances(there), 0, n - 1, TiltLists.NOTHING,
                (x, v) -> x.worth(v, 1));
            BOUNDS.range("tie of " + n, () -> Settings.withOrdinances(there), 0, n - 1, TiltLists.NOTHING,
                (x, v) -> x.worth(v, 6));
        }
        BOUNDS.range("worth of a stroke", Settings::tourney, 0, 6, TiltLists.NOTHING, (x, v) -> x.worth(2, v));
    }

    /** Promise 11: "stroke 6: the STROKE behind its ! (0: none)". */
    private static void worthBehindTie() {
        TiltLists x = new TiltLists();
        String[] texts = {"b1", "b1!b", "h1!h", "b1!l", "b1!u", "f1!f"};
        for (int i = 0; i < 6; i++) {
            BOUNDS.due("ordain " + texts[i], Check.ordain(x, texts[i]), i);
            BOUNDS.due("worth(" + i + ", 6)", x.worth(i, 6), i);
        }
    }
}
