/** Promises 7 to 11: feed, ordain, scrap, force, worth. */
public final class OrdinancesTest {
    private static final Check CHECK = new Check("OrdinancesTest");

    public static void main(String[] args) {
        feed();
        feedWhenFull();
        faults();
        soundTexts();
        ordain();
        scrap();
        force();
        worth();
        CHECK.end();
    }

    private static void feed() {
        TiltLists x = new TiltLists();
        CHECK.due("feed(0)", x.feed(0), 0);
        CHECK.due("one letter", x.feed('b'), 1);
        CHECK.due("nothing behind a first 0", x.feed(0x31313100), 1);
        CHECK.due("nothing behind a second 0", x.feed(0x31310031), 2);
        CHECK.due("nothing behind a third 0", x.feed(0x31003200 >>> 8), 3);
        CHECK.due("many(6)", x.many(6), 3);
        CHECK.due("ordain b12", x.ordain(), 0);
        CHECK.due("worth", x.worth(0, 1), 12);
        CHECK.due("four bytes, the highest with its sign", x.feed(0x80808080), 4);
        CHECK.due("as letters they are none", x.ordain(), TiltLists.FAULT);
        CHECK.due("scrap()", x.scrap(), 4);
        CHECK.due("lowest byte first", x.feed('h' | '-' << 8 | '4' << 16 | '2' << 24), 4);
        CHECK.due("ordain h-42", x.ordain(), 1);
        CHECK.due("worth of h", x.worth(1, 2), -42);
    }

    private static void feedWhenFull() {
        TiltLists x = new TiltLists();
        for (int i = 1; i <= 14; i++) {
            CHECK.due("feed " + i, x.feed(0x31313131), 4 * i);
        }
        CHECK.due("58 letters", x.feed(0x3131), 58);
        CHECK.due("three more", x.feed(0x313131), TiltLists.FULL);
        CHECK.due("four more", x.feed(-1), TiltLists.FULL);
        CHECK.due("they changed nothing", x.many(6), 58);
        CHECK.due("two more", x.feed(0x3131), 60);
        CHECK.due("one more", x.feed('1'), TiltLists.FULL);
        CHECK.due("none more", x.feed(0), 60);
        CHECK.due("none more, behind a 0", x.feed(0x31313100), 60);
        CHECK.due("ordain 60 letters", x.ordain(), TiltLists.FAULT);
        CHECK.due("scrap 60 letters", x.scrap(), 60);
        CHECK.due("feed then", x.feed('1'), 1);
    }

    private static void faults() {
        Object[][] texts = {
            {"", 0}, {"!", 0}, {"!b", 0}, {"-", 0}, {"1", 0}, {"m1", 0}, {"B1", 0}, {"x", 0}, {" b1", 0},
            {"b", 1}, {"bb", 1}, {"b!", 1}, {"b-", 2}, {"b--1", 2}, {"b-x", 2}, {"b-!b", 2}, {"b+1", 1},
            {"b123", 3}, {"b1-", 2}, {"b1 h1", 2}, {"b1m", 2}, {"b1b", 2}, {"b1b2", 2}, {"b1h2b3", 4},
            {"b1h", 3}, {"b12h-", 5}, {"b12h-3b", 6}, {"b12h-34h", 7}, {"b1!", 3}, {"b1!m", 3}, {"b1!1", 3},
            {"b1!!", 3}, {"b1!-", 3}, {"b1!b1", 4}, {"b1!bh", 4}, {"b1!b!", 4}, {"b1!hh2", 4}, {"b1!x9", 3},
            {"b1h1l1u1f1b", 10}, {"b1h1l1u1f1m", 10}, {"b1h1l1u1f1!", 11}, {"b1h1l1u1f111", 11},
            {"b/", 1}, {"b:", 1}, {"b1/", 2}, {"b1:", 2}, {"b-99h-99l-99u-99f-99!bx", 22}, {"b1\u0080", 2}};
        for (Object[] t : texts) {
            TiltLists x = new TiltLists();
            String text = (String) t[0];
            int place = (Integer) t[1];
            CHECK.due("ordain " + text, Check.ordain(x, text), TiltLists.FAULT - place);
            CHECK.due("letters of " + text, x.many(6), text.length());
            CHECK.due("ordinances behind " + text, x.many(1), 0);
            CHECK.due("in force behind " + text, x.many(2), -2);
            CHECK.due("ordain " + text + " again", x.ordain(), TiltLists.FAULT - place);
        }
    }

    private static void soundTexts() {
        soundText("b1", 1, 0, 0, 0, 0, 0);
        soundText("h0", 0, 0, 0, 0, 0, 0);
        soundText("l-0", 0, 0, 0, 0, 0, 0);
        soundText("u00!u", 0, 0, 0, 0, 0, 4);
        soundText("f-99!b", 0, 0, 0, 0, -99, 1);
        soundText("l07!l", 0, 0, 7, 0, 0, 3);
        soundText("f1u2l3h4b5", 5, 4, 3, 2, 1, 0);
        soundText("b-99h99l-10u10f-01!f", -99, 99, -10, 10, -1, 5);
        soundText("h2b-34!h", -34, 2, 0, 0, 0, 2);
    }

    private static void soundText(String text, int... due) {
        TiltLists x = new TiltLists();
        CHECK.due("ordain " + text, Check.ordain(x, text), 0);
        CHECK.due("worth of m in " + text, x.worth(0, 0), 0);
        for (int stroke = 1; stroke <= 6; stroke++) {
            CHECK.due("worth " + stroke + " in " + text, x.worth(0, stroke), due[stroke - 1]);
        }
    }

    private static void ordain() {
        TiltLists x = new TiltLists();
        for (int i = 0; i < 6; i++) {
            CHECK.due("faulty text " + i, Check.ordain(x, "b9h8l7u6f5!f!"), TiltLists.FAULT - 12);
            x.scrap();
            CHECK.due("ordain " + i, Check.ordain(x, "u" + i), i);
            CHECK.due("nothing is fed then", x.many(6), 0);
            CHECK.due("in force", x.many(2), i);
            CHECK.due("how many", x.many(1), i + 1);
        }
        CHECK.due("FULL ahead of FAULT", x.ordain(), TiltLists.FULL);
        CHECK.due("FULL with a sound text", Check.ordain(x, "b1"), TiltLists.FULL);
        CHECK.due("what is fed stays", x.many(6), 2);
        CHECK.due("FULL with a faulty text", Check.ordain(x, "!"), TiltLists.FULL);
        CHECK.due("many(1)", x.many(1), 6);
        CHECK.due("many(2)", x.many(2), 5);
        for (int i = 0; i < 6; i++) {
            // A faulty text that went before leaves nothing in the ordinance.
            int[] due = {0, 0, 0, 0, i, 0, 0};
            for (int stroke = 0; stroke < 7; stroke++) {
                CHECK.due("worth(" + i + ", " + stroke + ")", x.worth(i, stroke), due[stroke]);
            }
        }
    }

    private static void scrap() {
        TiltLists x = new TiltLists();
        CHECK.due("scrap nothing", x.scrap(), 0);
        Check.feed(x, "b1h2x");
        CHECK.due("ordain", x.ordain(), TiltLists.FAULT - 4);
        CHECK.due("scrap", x.scrap(), 5);
        CHECK.due("scrap again", x.scrap(), 0);
        CHECK.due("many(6)", x.many(6), 0);
        CHECK.due("ordain nothing", x.ordain(), TiltLists.FAULT);
        CHECK.due("ordain l3", Check.ordain(x, "l3"), 0);
        CHECK.due("worth of b", x.worth(0, 1), 0);
        CHECK.due("worth of l", x.worth(0, 3), 3);
    }

    private static void force() {
        TiltLists x = new TiltLists();
        CHECK.due("force(0) of none", x.force(0), TiltLists.NUMBER);
        CHECK.due("force(-2), which tells none", x.force(-2), TiltLists.NUMBER);
        Check.ordain(x, "b1");
        Check.ordain(x, "b2");
        CHECK.due("force(2)", x.force(2), TiltLists.NUMBER);
        CHECK.due("many(2)", x.many(2), 1);
        CHECK.due("force(0)", x.force(0), 1);
        CHECK.due("force(0) again", x.force(0), 1);
        CHECK.due("many(2)", x.many(2), 0);
        for (int v : Check.OUTSIDE) {
            CHECK.due("force(" + v + ")", x.force(v), TiltLists.NUMBER);
        }
        CHECK.due("many(2) behind refusals", x.many(2), 0);
        CHECK.due("a new one comes in force", Check.ordain(x, "b3"), 2);
        CHECK.due("many(2)", x.many(2), 2);
    }

    private static void worth() {
        TiltLists x = new TiltLists();
        CHECK.due("worth(0, 0) of none", x.worth(0, 0), TiltLists.NOTHING);
        Check.ordain(x, "b1!u");
        CHECK.due("worth(1, 0)", x.worth(1, 0), TiltLists.NOTHING);
        CHECK.due("worth(0, 7)", x.worth(0, 7), TiltLists.NOTHING);
        CHECK.due("worth(0, 6)", x.worth(0, 6), 4);
        for (int v : Check.OUTSIDE) {
            CHECK.due("worth(" + v + ", 1)", x.worth(v, 1), TiltLists.NOTHING);
            CHECK.due("worth(0, " + v + ")", x.worth(0, v), TiltLists.NOTHING);
        }
    }
}
