/** Promises 19 to 21: owes, pay, purse; and what many() tells of them. */
public final class RansomsTest {
    private static final Check CHECK = new Check("RansomsTest");

    public static void main(String[] args) {
        owes();
        pay();
        paidStays();
        purse();
        CHECK.end();
    }

    private static TiltLists withJoust() {
        TiltLists x = Check.withKnights(3);
        Check.ordain(x, "u5");
        x.joust(0, 1);
        return x;
    }

    private static void owes() {
        TiltLists x = withJoust();
        CHECK.due("owes(0) by gaps", x.owes(0), 0);
        x.stroke(0, 1, 0, 3);
        CHECK.due("owes(0) by a lance", x.owes(0), 0);
        x.stroke(0, 1, 5, 4);
        CHECK.due("owes(0)", x.owes(0), 10);
        CHECK.due("owes(1)", x.owes(1), 0);
        x.stroke(0, 1, 4, 4);
        CHECK.due("owes(0), unhorsed twice", x.owes(0), 10);
        for (int rank = 1; rank <= 3; rank++) {
            x.rank(0, rank);
            CHECK.due("owes(0) of rank " + rank, x.owes(0), 10 + 10 * rank);
        }
        x.joust(2, 0);
        x.stroke(1, 0, 0, 4);
        CHECK.due("owes(0) in two jousts", x.owes(0), 80);
        x.stroke(1, 1, 0, 4);
        CHECK.due("owes(2)", x.owes(2), 10);
        CHECK.due("many(8)", x.many(8), 90);
        CHECK.due("owes(3)", x.owes(3), TiltLists.NUMBER);
        for (int v : Check.OUTSIDE) {
            CHECK.due("owes(" + v + ")", x.owes(v), TiltLists.NUMBER);
        }
    }

    private static void pay() {
        TiltLists x = withJoust();
        CHECK.due("pay of nothing", x.pay(0, 0, 1), TiltLists.NONE);
        x.rank(1, 3);
        x.stroke(0, 0, 2, 4);
        CHECK.due("pay(0, 1, 41)", x.pay(0, 1, 41), TiltLists.NONE);
        CHECK.due("pay(0, 1, 100)", x.pay(0, 1, 100), TiltLists.NONE);
        CHECK.due("pay(0, 1, 101)", x.pay(0, 1, 101), TiltLists.NUMBER);
        CHECK.due("pay(0, 1, 0)", x.pay(0, 1, 0), TiltLists.NUMBER);
        CHECK.due("pay(0, 0, 1)", x.pay(0, 0, 1), TiltLists.NONE);
        CHECK.due("pay(1, 0, 1)", x.pay(1, 0, 1), TiltLists.NUMBER);
        CHECK.due("pay(0, 2, 1)", x.pay(0, 2, 1), TiltLists.NUMBER);
        for (int v : Check.OUTSIDE) {
            CHECK.due("pay(" + v + ", 1, 1)", x.pay(v, 1, 1), TiltLists.NUMBER);
            CHECK.due("pay(0, " + v + ", 1)", x.pay(0, v, 1), TiltLists.NUMBER);
            CHECK.due("pay(0, 1, " + v + ")", x.pay(0, 1, v), TiltLists.NUMBER);
        }
        CHECK.due("many(9) behind refusals", x.many(9), 0);
        CHECK.due("pay(0, 1, 1)", x.pay(0, 1, 1), 39);
        CHECK.due("pay(0, 1, 40)", x.pay(0, 1, 40), TiltLists.NONE);
        CHECK.due("pay(0, 1, 38)", x.pay(0, 1, 38), 1);
        CHECK.due("owes(1)", x.owes(1), 1);
        CHECK.due("pay(0, 1, 1) of the last coin", x.pay(0, 1, 1), 0);
        CHECK.due("pay(0, 1, 1) once more", x.pay(0, 1, 1), TiltLists.NONE);
        CHECK.due("owes(1)", x.owes(1), 0);
        CHECK.due("many(8)", x.many(8), 0);
        CHECK.due("many(9)", x.many(9), 40);
    }

    private static void paidStays() {
        TiltLists x = withJoust();
        x.rank(0, 2);
        x.stroke(0, 1, 0, 4);
        CHECK.due("pay(0, 0, 25)", x.pay(0, 0, 25), 5);
        x.rank(0, 0);
        CHECK.due("owes(0), more is paid than is due", x.owes(0), 0);
        x.rank(0, 3);
        CHECK.due("owes(0) of rank 3", x.owes(0), 15);
        x.stroke(0, 1, 0, 6);
        CHECK.due("owes(0), not unhorsed", x.owes(0), 0);
        CHECK.due("many(9)", x.many(9), 25);
        CHECK.due("purse(0)", x.purse(0), -25);
        CHECK.due("purse(1)", x.purse(1), 25);
        // What is paid too much of one ransom is not paid of another one.
        x.joust(0, 1);
        x.stroke(1, 1, 0, 4);
        CHECK.due("owes(0) of the second", x.owes(0), 40);
        x.stroke(0, 1, 3, 4);
        CHECK.due("owes(0) of both", x.owes(0), 55);
        CHECK.due("many(8)", x.many(8), 55);
    }

    private static void purse() {
        TiltLists x = withJoust();
        x.joust(2, 0);
        x.stroke(0, 0, 0, 4);
        x.stroke(0, 1, 0, 4);
        x.stroke(1, 0, 0, 4);
        CHECK.due("purse(0) at first", x.purse(0), 0);
        CHECK.due("1 pays 0", x.pay(0, 1, 7), 3);
        CHECK.due("0 pays 1", x.pay(0, 0, 2), 8);
        CHECK.due("0 pays 2", x.pay(1, 1, 10), 0);
        CHECK.due("purse(0)", x.purse(0), -5);
        CHECK.due("purse(1)", x.purse(1), -5);
        CHECK.due("purse(2)", x.purse(2), 10);
        CHECK.due("many(9)", x.many(9), 19);
        CHECK.due("purse(3)", x.purse(3), TiltLists.NOTHING);
        for (int v : Check.OUTSIDE) {
            CHECK.due("purse(" + v + ")", x.purse(v), TiltLists.NOTHING);
        }
    }
}
