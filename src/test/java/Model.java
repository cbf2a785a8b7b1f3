import java.util.ArrayList;
import java.util.HashSet;
import java.util.List;
import java.util.Set;
import java.util.TreeSet;

/**
 * The document once more, slow and by trying everything: all ways for the gaps,
 * all plans, all rings, all that may follow a beginning of a text. The class is
 * compared with it on random runs.
 */
final class Model {
    private static final String LETTERS = "mbhluf";

    private static final class Knight {
        int rank;
        int[] arms;
    }

    private static final class Law {
        final int[] worths = new int[6];
        int tie;
    }

    private static final class Joust {
        final int[] riders = new int[2];
        final int[][] sheets = {{6, 6, 6, 6, 6, 6}, {6, 6, 6, 6, 6, 6}};
        final int[] paid = new int[2];
        Law law;
    }

    private final List<Knight> knights = new ArrayList<>();
    private final List<Law> laws = new ArrayList<>();
    private final List<Joust> jousts = new ArrayList<>();
    private final List<TreeSet<Integer>> challenges = new ArrayList<>();
    private final Set<TreeSet<Integer>> feuds = new HashSet<>();
    private String fed = "";
    private int force = -2;

    // ---- knights

    private boolean isKnight(int k) {
        return k >= 0 && k < knights.size();
    }

    private boolean isPair(int a, int b) {
        return isKnight(a) && isKnight(b) && a != b;
    }

    private static TreeSet<Integer> pair(int a, int b) {
        TreeSet<Integer> s = new TreeSet<>();
        s.add(a);
        s.add(b);
        return s;
    }

    int knight(int rank, int field, int charge, int tincture) {
        if (rank < 0 || rank > 3 || badArms(field, charge, tincture)) {
            return -1;
        }
        if (knights.size() == 14) {
            return -2;
        }
        Knight k = new Knight();
        k.rank = rank;
        k.arms = new int[] {field, charge, tincture};
        knights.add(k);
        return knights.size() - 1;
    }

    private static boolean badArms(int field, int charge, int tincture) {
        return field < 0 || field > 5 || charge < 0 || charge > 9 || tincture < 0 || tincture > 5;
    }

    int arms(int k, int field, int charge, int tincture) {
        if (!isKnight(k) || badArms(field, charge, tincture)) {
            return -1;
        }
        knights.get(k).arms = new int[] {field, charge, tincture};
        return 1;
    }

    int rank(int k, int rank) {
        if (!isKnight(k) || rank < 0 || rank > 3) {
            return -1;
        }
        int was = knights.get(k).rank;
        knights.get(k).rank = rank;
        return was;
    }

    private boolean nearArms(int a, int b) {
        int n = 0;
        for (int i = 0; i < 3; i++) {
            n += knights.get(a).arms[i] == knights.get(b).arms[i] ? 1 : 0;
        }
        return n >= 2;
    }

    /** Of two with near arms the one who yields. */
    private int yielder(int a, int b) {
        int ra = knights.get(a).rank;
        int rb = knights.get(b).rank;
        return ra < rb ? a : rb < ra ? b : Math.max(a, b);
    }

    private int yieldedTo(int k) {
        for (int o = 0; o < knights.size(); o++) {
            if (o != k && nearArms(k, o) && yielder(k, o) == k) {
                return o;
            }
        }
        return -2;
    }

    int of(int k, int what) {
        if (!isKnight(k) || what < 0 || what > 5) {
            return -1;
        }
        if (what == 0) {
            return knights.get(k).rank;
        }
        if (what <= 3) {
            return knights.get(k).arms[what - 1];
        }
        return what == 5 ? yieldedTo(k) : yieldedTo(k) == -2 ? 1 : 0;
    }

    int near() {
        int n = 0;
        for (int a = 0; a < knights.size(); a++) {
            for (int b = 0; b < a; b++) {
                n += nearArms(a, b) ? 1 : 0;
            }
        }
        return n;
    }

    // ---- ordinances

    int feed(int v) {
        StringBuilder sb = new StringBuilder(fed);
        long bits = v & 0xffffffffL;
        while (bits % 256 != 0) {
            sb.append((char) (bits % 256));
            bits /= 256;
        }
        if (sb.length() > 60) {
            return -2;
        }
        fed = sb.toString();
        return fed.length();
    }

    private static final String ITEM = "[bhluf]-?[0-9][0-9]?";

    private static boolean isWhole(String s) {
        if (!s.matches("(" + ITEM + ")+(![bhluf])?")) {
            return false;
        }
        return noneTwice(s);
    }

    private static boolean noneTwice(String s) {
        String items = s.indexOf('!') < 0 ? s : s.substring(0, s.indexOf('!'));
        String letters = items.replaceAll("[^bhluf]", "");
        return letters.chars().distinct().count() == letters.length();
    }

    /** Whether some whole text begins so: one is tried with each of some endings behind it. */
    private static boolean isBeginning(String s) {
        String[] ends = {"", "0", "b", "b0", "h0", "l0", "u0", "f0", "!b"};
        for (String end : ends) {
            if (isWhole(s + end)) {
                return true;
            }
        }
        return false;
    }

    private static int faultOf(String s) {
        for (int i = 0; i < s.length(); i++) {
            if (!isBeginning(s.substring(0, i + 1))) {
                return i;
            }
        }
        return isWhole(s) ? -1 : s.length();
    }

    int ordain() {
        if (laws.size() == 6) {
            return -2;
        }
        int fault = faultOf(fed);
        if (fault >= 0) {
            return -100 - fault;
        }
        Law law = new Law();
        String[] halves = fed.split("!");
        law.tie = halves.length > 1 ? LETTERS.indexOf(halves[1]) : 0;
        for (String item : halves[0].split("(?=[bhluf])")) {
            law.worths[LETTERS.indexOf(item.charAt(0))] = Integer.parseInt(item.substring(1));
        }
        fed = "";
        laws.add(law);
        force = laws.size() - 1;
        return force;
    }

    int scrap() {
        int n = fed.length();
        fed = "";
        return n;
    }

    int force(int o) {
        if (o < 0 || o >= laws.size()) {
            return -1;
        }
        force = o;
        return 1;
    }

    int worth(int o, int stroke) {
        if (o < 0 || o >= laws.size() || stroke < 0 || stroke > 6) {
            return -1000000;
        }
        return stroke == 6 ? laws.get(o).tie : laws.get(o).worths[stroke];
    }

    // ---- jousts

    int joust(int a, int b) {
        if (!isPair(a, b)) {
            return -1;
        }
        if (force == -2) {
            return -4;
        }
        if (yieldedTo(a) != -2 || yieldedTo(b) != -2) {
            return -5;
        }
        if (jousts.size() == 30) {
            return -2;
        }
        Joust j = new Joust();
        j.riders[0] = a;
        j.riders[1] = b;
        j.law = laws.get(force);
        jousts.add(j);
        return jousts.size() - 1;
    }

    private boolean isSheet(int j, int side) {
        return j >= 0 && j < jousts.size() && (side == 0 || side == 1);
    }

    int stroke(int j, int side, int course, int stroke) {
        if (!isSheet(j, side) || course < 0 || course > 5 || stroke < 0 || stroke > 6) {
            return -1;
        }
        int was = jousts.get(j).sheets[side][course];
        jousts.get(j).sheets[side][course] = stroke;
        return was;
    }

    int copy(int j, int other, int side, int from, int to, int n) {
        if (!isSheet(j, side) || !isSheet(other, side) || n < 0 || n > 6) {
            return -1;
        }
        if (from < 0 || to < 0 || from > 6 || to > 6 || from + n > 6 || to + n > 6) {
            return -1;
        }
        int[] was = jousts.get(j).sheets[side].clone();
        for (int i = 0; i < n; i++) {
            jousts.get(other).sheets[side][to + i] = was[from + i];
        }
        return n;
    }

    /** All that a sheet may come to: its score times 100, and how many it has of the stroke behind the !. */
    private static TreeSet<Integer> outcomes(Joust j, int side) {
        TreeSet<Integer> all = new TreeSet<>();
        fill(j.law, j.sheets[side], 0, 0, 0, all);
        return all;
    }

    private static void fill(Law law, int[] sheet, int course, int score, int count, Set<Integer> all) {
        if (course == 6) {
            all.add((score + 1000) * 100 + count);
            return;
        }
        for (int s = 0; s < 6; s++) {
            if (sheet[course] == s || sheet[course] == 6) {
                fill(law, sheet, course + 1, score + law.worths[s], count + (law.tie != 0 && law.tie == s ? 1 : 0), all);
            }
        }
    }

    private int[] scores(Joust j, int side) {
        TreeSet<Integer> scores = new TreeSet<>();
        for (int o : outcomes(j, side)) {
            scores.add(o / 100 - 1000);
        }
        return new int[] {scores.first(), scores.last()};
    }

    int sheet(int j, int side, int what) {
        if (!isSheet(j, side) || what < 0 || what > 8) {
            return -1000000;
        }
        if (what < 2) {
            return scores(jousts.get(j), side)[what];
        }
        int sought = what == 2 ? 6 : what - 3;
        int n = 0;
        for (int s : jousts.get(j).sheets[side]) {
            n += s == sought ? 1 : 0;
        }
        return n;
    }

    private static boolean beats(Joust j, int mine, int his) {
        if (mine / 100 != his / 100) {
            return mine / 100 > his / 100;
        }
        return j.law.tie != 0 && mine % 100 > his % 100;
    }

    int wins(int j, int side) {
        return isSheet(j, side) ? winsOf(jousts.get(j), side) : -1;
    }

    private static int winsOf(Joust j, int side) {
        boolean always = true;
        boolean once = false;
        TreeSet<Integer> others = outcomes(j, 1 - side);
        for (int mine : outcomes(j, side)) {
            for (int his : others) {
                boolean b = beats(j, mine, his);
                always &= b;
                once |= b;
            }
        }
        return always ? 2 : once ? 1 : 0;
    }

    int won(int k) {
        if (!isKnight(k)) {
            return -1;
        }
        int n = 0;
        for (Joust j : jousts) {
            for (int side = 0; side < 2; side++) {
                n += j.riders[side] == k && winsOf(j, side) == 2 ? 1 : 0;
            }
        }
        return n;
    }

    int best() {
        int best = -4;
        int most = -1;
        for (int k = 0; k < knights.size(); k++) {
            int ridden = 0;
            for (Joust j : jousts) {
                ridden += j.riders[0] == k || j.riders[1] == k ? 1 : 0;
            }
            int merit = won(k) * 100 + 50 - ridden;
            if (merit > most) {
                most = merit;
                best = k;
            }
        }
        return best;
    }

    // ---- ransoms

    private int owed(Joust j, int side) {
        int ransom = 0;
        for (int s : j.sheets[1 - side]) {
            if (s == 4) {
                ransom = 10 + 10 * knights.get(j.riders[side]).rank;
            }
        }
        return ransom > j.paid[side] ? ransom - j.paid[side] : 0;
    }

    int owes(int k) {
        if (!isKnight(k)) {
            return -1;
        }
        int sum = 0;
        for (Joust j : jousts) {
            for (int side = 0; side < 2; side++) {
                sum += j.riders[side] == k ? owed(j, side) : 0;
            }
        }
        return sum;
    }

    int pay(int n, int side, int v) {
        if (!isSheet(n, side) || v < 1 || v > 100) {
            return -1;
        }
        Joust j = jousts.get(n);
        if (owed(j, side) < v) {
            return -4;
        }
        j.paid[side] += v;
        return owed(j, side);
    }

    int purse(int k) {
        if (!isKnight(k)) {
            return -1000000;
        }
        int sum = 0;
        for (Joust j : jousts) {
            for (int side = 0; side < 2; side++) {
                sum += j.riders[side] == k ? j.paid[1 - side] - j.paid[side] : 0;
            }
        }
        return sum;
    }

    // ---- challenges

    int challenge(int a, int b) {
        if (!isPair(a, b)) {
            return -1;
        }
        if (challenges.contains(pair(a, b))) {
            return -3;
        }
        if (challenges.size() == 7) {
            return -2;
        }
        challenges.add(pair(a, b));
        return challenges.size() - 1;
    }

    int withdraw() {
        if (challenges.isEmpty()) {
            return -4;
        }
        challenges.remove(challenges.size() - 1);
        return challenges.size();
    }

    /** The first plan, in the order of plans, for the first greatest turn (odd ones too) that has one. */
    private int[] bestPlan() {
        int[] plan = new int[challenges.size()];
        for (int last = 0; last < 20; last++) {
            if (planFrom(0, last, plan)) {
                return plan;
            }
        }
        throw new IllegalStateException("no plan");
    }

    private boolean planFrom(int c, int last, int[] plan) {
        if (c == plan.length) {
            return true;
        }
        for (int t = 0; t <= last; t++) {
            boolean goes = true;
            for (int e = 0; e < c; e++) {
                TreeSet<Integer> common = new TreeSet<>(challenges.get(e));
                common.retainAll(challenges.get(c));
                goes &= common.isEmpty() || plan[e] - t > 1 || t - plan[e] > 1;
            }
            plan[c] = t;
            if (goes && planFrom(c + 1, last, plan)) {
                return true;
            }
        }
        return false;
    }

    int turn(int c) {
        return c < 0 || c >= challenges.size() ? -1 : bestPlan()[c];
    }

    int turns() {
        int n = 0;
        for (int t : bestPlan()) {
            n = Math.max(n, t + 1);
        }
        return n;
    }

    // ---- the camp

    int feud(int a, int b, boolean is) {
        if (!isPair(a, b)) {
            return -1;
        }
        boolean isNew = is ? feuds.add(pair(a, b)) : feuds.remove(pair(a, b));
        return isNew ? 1 : 0;
    }

    int tent(int i) {
        if (i < 0 || i > 6) {
            return -1;
        }
        List<Integer> order = new ArrayList<>();
        for (int k = 0; k < knights.size(); k++) {
            order.add(k);
        }
        order.sort((a, b) -> knights.get(a).rank != knights.get(b).rank
            ? knights.get(b).rank - knights.get(a).rank : a - b);
        order = new ArrayList<>(order.subList(0, Math.min(7, order.size())));
        if (order.isEmpty()) {
            return -4;
        }
        List<Integer> ring = new ArrayList<>();
        ring.add(order.remove(0));
        List<Integer> best = leastRing(ring, order, null);
        return best == null || i >= best.size() ? -4 : best.get(i);
    }

    /** Tries every ring, whole, and keeps the least. */
    private List<Integer> leastRing(List<Integer> ring, List<Integer> rest, List<Integer> best) {
        if (rest.isEmpty()) {
            boolean isLess = best == null;
            for (int i = 0; !isLess && i < ring.size() && ring.get(i) <= best.get(i); i++) {
                isLess = ring.get(i) < best.get(i);
            }
            return isLess && isCamp(ring) ? new ArrayList<>(ring) : best;
        }
        for (int i = 0; i < rest.size(); i++) {
            Integer k = rest.remove(i);
            ring.add(k);
            best = leastRing(ring, rest, best);
            ring.remove(ring.size() - 1);
            rest.add(i, k);
        }
        return best;
    }

    private boolean isCamp(List<Integer> ring) {
        for (int i = 0; i < ring.size(); i++) {
            if (feuds.contains(pair(ring.get(i), ring.get((i + 1) % ring.size())))) {
                return false;
            }
        }
        return true;
    }

    int many(int what) {
        int riders = 0;
        int owed = 0;
        int paid = 0;
        for (int k = 0; k < knights.size(); k++) {
            riders += yieldedTo(k) == -2 ? 1 : 0;
            owed += owes(k);
        }
        for (Joust j : jousts) {
            paid += j.paid[0] + j.paid[1];
        }
        int[] all = {knights.size(), laws.size(), force, jousts.size(), challenges.size(), feuds.size(), fed.length(),
            riders, owed, paid};
        return what < 0 || what > 9 ? -1 : all[what];
    }
}
