import java.nio.file.Files;
import java.nio.file.Path;

/** README.md: its example answers what stands beside it, and its table has every call of the face. */
public final class ReadmeTest {
    private static final Check CHECK = new Check("ReadmeTest");

    public static void main(String[] args) throws Exception {
        example();
        table(Files.readString(Path.of("README.md")));
        CHECK.end();
    }

    private static void example() {
        TiltLists lists = new TiltLists();
        int a = lists.knight(2, 0, 1, 2);
        int b = lists.knight(0, 5, 9, 5);
        CHECK.due("the first knight", a, 0);
        CHECK.due("the second knight", b, 1);
        lists.feed('b' | '2' << 8 | 'u' << 16 | '5' << 24);
        CHECK.due("ordain()", lists.ordain(), 0);
        CHECK.due("the one in force", lists.many(2), 0);
        int joust = lists.joust(a, b);
        CHECK.due("the joust", joust, 0);
        CHECK.due("stroke", lists.stroke(joust, 0, 0, 4), 6);
        CHECK.due("LOW", lists.sheet(joust, 0, 0), 5);
        CHECK.due("wins", lists.wins(joust, 0), 1);
        CHECK.due("owes", lists.owes(b), 10);
        CHECK.due("pay", lists.pay(joust, 1, 4), 6);
        CHECK.due("purse", lists.purse(a), 4);
        CHECK.due("challenge", lists.challenge(a, b), 0);
        CHECK.due("turns()", lists.turns(), 1);
        CHECK.due("tent(0)", lists.tent(0), 0);
    }

    private static void table(String readme) {
        for (String method : FaceTest.METHODS) {
            String name = method.substring(0, method.indexOf(' '));
            int row = readme.indexOf("\n| `" + name + "(");
            CHECK.due("a row for " + name, row >= 0 ? 1 : 0, 1);
            if (row >= 0) {
                String names = readme.substring(readme.indexOf('(', row) + 1, readme.indexOf(')', row));
                int parameters = names.isEmpty() ? 0 : names.split(", ").length;
                CHECK.due("parameters of " + name, parameters, method.length() - method.indexOf(' ') - 1);
            }
        }
    }
}
