/** Objects in which something is there already, for the boundary tests. */
final class Settings {
    private Settings() {
    }

    /**
     * Of everything some: knights 0 to 4 (3 yields to 0), ordinances 0 to 2 (1 in
     * force), jousts 0 to 2, strokes, payments, challenges 0 to 2, two feuds, and
     * the text b1h, which lacks a worth.
     */
    static TiltLists tourney() {
        TiltLists x = new TiltLists();
        x.knight(2, 0, 1, 2);
        x.knight(0, 5, 9, 5);
        x.knight(3, 3, 3, 3);
        x.knight(1, 0, 1, 4);
        x.knight(1, 4, 8, 1);
        Check.ordain(x, "b2h5u4f-9!h");
        Check.ordain(x, "l3u-2");
        Check.ordain(x, "b1");
        x.joust(0, 1);
        x.force(1);
        x.joust(2, 4);
        x.joust(1, 2);
        Check.tell(x, 0, 0, "0124");
        Check.tell(x, 0, 1, "543");
        Check.tell(x, 1, 1, "444444");
        x.pay(0, 1, 4);
        x.pay(1, 0, 7);
        x.challenge(0, 1);
        x.challenge(1, 2);
        x.challenge(3, 4);
        x.feud(0, 1, true);
        x.feud(2, 4, true);
        Check.feed(x, "b1h");
        return x;
    }

    /** Fourteen knights, who are as many as may be. */
    static TiltLists fullOfKnights() {
        TiltLists x = new TiltLists();
        for (int i = 0; i < 14; i++) {
            x.knight(i % 4, i % 6, i % 10, (i + i / 6) % 6);
        }
        return x;
    }

    /** So many letters, each of them an 1. */
    static TiltLists withLetters(int n) {
        TiltLists x = new TiltLists();
        Check.feed(x, "1".repeat(n));
        return x;
    }

    /** So many ordinances: number i has i + 1 for a stroke to the body. */
    static TiltLists withOrdinances(int n) {
        TiltLists x = new TiltLists();
        for (int i = 0; i < n; i++) {
            Check.ordain(x, "b" + (i + 1));
        }
        return x;
    }

    /** Knights 0 to 3, of whom 3 yields to 0; an ordinance; and so many jousts of 0 and 1. */
    static TiltLists withJousts(int n) {
        TiltLists x = Check.withKnights(3);
        x.knight(0, 0, 0, 5);
        Check.ordain(x, "b2u5!u");
        for (int i = 0; i < n; i++) {
            x.joust(0, 1);
        }
        return x;
    }

    /** Knights 0 to 8, of whom 0 challenged so many others. */
    static TiltLists withChallenges(int n) {
        TiltLists x = Check.withKnights(9);
        for (int i = 0; i < n; i++) {
            x.challenge(0, i + 1);
        }
        return x;
    }
}
