/**
 * The lists of a tournament: knights and their arms, ordinances, jousts with
 * their ransoms, challenges and the camp. A refused call answers one of the
 * constants (FAULT less a place, for a text) and changes nothing.
 */
public final class TiltLists {
    public static final int NUMBER = -1;
    public static final int FULL = -2;
    public static final int TWICE = -3;
    public static final int NONE = -4;
    public static final int YIELDS = -5;
    public static final int NOTHING = -1000000;
    public static final int FAULT = -100;

    private static final int MOST_KNIGHTS = 14;
    private static final int MOST_LETTERS = 60;
    private static final int MOST_ORDINANCES = 6;
    private static final int MOST_JOUSTS = 30;
    private static final int MOST_CHALLENGES = 7;
    private static final int MOST_TENTS = 7;
    private static final int MOST_PAID_AT_ONCE = 100;

    private static final int GREATEST_RANK = 3;
    private static final int COURSES = 6;
    private static final int STROKES = 6;
    private static final int UNHORSED = 4;
    private static final int GAP = 6;
    private static final int SIDES = 2;

    /** What of() and many() tell where there is nobody and nothing. */
    private static final int NOBODY = -2;

    private final Roll roll;
    private final Ordinances ordinances;
    private final Text text;
    private final Jousts jousts;
    private final Challenges challenges;
    private final Camp camp;

    public TiltLists() {
        roll = new Roll();
        ordinances = new Ordinances();
        text = new Text();
        jousts = new Jousts(roll, ordinances);
        challenges = new Challenges();
        camp = new Camp();
    }

    // ---- knights

    public int knight(int rank, int field, int charge, int tincture) {
        if (!Roll.mayBeRank(rank) || !Roll.mayBeArms(field, charge, tincture)) {
            return NUMBER;
        }
        if (roll.isFull()) {
            return FULL;
        }
        return roll.enter(rank, field, charge, tincture);
    }

    public int arms(int knight, int field, int charge, int tincture) {
        if (!roll.has(knight) || !Roll.mayBeArms(field, charge, tincture)) {
            return NUMBER;
        }
        roll.paint(knight, field, charge, tincture);
        return 1;
    }

    public int rank(int knight, int rank) {
        if (!roll.has(knight) || !Roll.mayBeRank(rank)) {
            return NUMBER;
        }
        int before = roll.rankOf(knight);
        roll.raise(knight, rank);
        return before;
    }

    public int of(int knight, int what) {
        if (!roll.has(knight)) {
            return NUMBER;
        }
        switch (what) {
            case 0: return roll.rankOf(knight);
            case 1: return roll.fieldOf(knight);
            case 2: return roll.chargeOf(knight);
            case 3: return roll.tinctureOf(knight);
            case 4: return roll.canRide(knight) ? 1 : 0;
            case 5: return roll.leastYieldedTo(knight);
            default: return NUMBER;
        }
    }

    public int near() {
        return roll.countNear();
    }

    // ---- ordinances

    public int feed(int v) {
        return text.append(v) ? text.length() : FULL;
    }

    public int ordain() {
        if (ordinances.isFull()) {
            return FULL;
        }
        int fault = text.readInto(ordinances);
        if (fault != Text.SOUND) {
            return FAULT - fault;
        }
        text.wipe();
        return ordinances.keepDraft();
    }

    public int scrap() {
        return text.wipe();
    }

    public int force(int ordinance) {
        if (!ordinances.has(ordinance)) {
            return NUMBER;
        }
        ordinances.putInForce(ordinance);
        return 1;
    }

    public int worth(int ordinance, int stroke) {
        if (!ordinances.has(ordinance)) {
            return NOTHING;
        }
        if (stroke == STROKES) {
            return ordinances.tieOf(ordinance);
        }
        return isWithin(stroke, 0, STROKES - 1) ? ordinances.worthOf(ordinance, stroke) : NOTHING;
    }

    // ---- jousts

    public int joust(int knight, int other) {
        if (!roll.hasPair(knight, other)) {
            return NUMBER;
        }
        if (ordinances.inForce() == NOBODY) {
            return NONE;
        }
        if (!roll.canRide(knight) || !roll.canRide(other)) {
            return YIELDS;
        }
        if (jousts.isFull()) {
            return FULL;
        }
        return jousts.begin(knight, other, ordinances.inForce());
    }

    public int stroke(int joust, int side, int course, int stroke) {
        if (!jousts.has(joust, side) || !isWithin(course, 0, COURSES - 1) || !isWithin(stroke, 0, GAP)) {
            return NUMBER;
        }
        return jousts.tell(Jousts.sheetOf(joust, side), course, stroke);
    }

    public int copy(int joust, int other, int side, int from, int to, int n) {
        if (!jousts.has(joust, side) || !jousts.has(other, side)) {
            return NUMBER;
        }
        if (!isWithin(n, 0, COURSES) || !isWithin(from, 0, COURSES - n) || !isWithin(to, 0, COURSES - n)) {
            return NUMBER;
        }
        jousts.carryOver(Jousts.sheetOf(joust, side), Jousts.sheetOf(other, side), from, to, n);
        return n;
    }

    public int sheet(int joust, int side, int what) {
        if (!jousts.has(joust, side)) {
            return NOTHING;
        }
        int sheet = Jousts.sheetOf(joust, side);
        switch (what) {
            case 0: return Ordinances.scoreIn(jousts.leastStanding(sheet));
            case 1: return Ordinances.scoreIn(jousts.greatestStanding(sheet));
            case 2: return jousts.countOf(sheet, GAP);
            default: return isWithin(what, 3, 2 + STROKES) ? jousts.countOf(sheet, what - 3) : NOTHING;
        }
    }

    public int wins(int joust, int side) {
        if (!jousts.has(joust, side)) {
            return NUMBER;
        }
        int sheet = Jousts.sheetOf(joust, side);
        if (jousts.winsSurely(sheet)) {
            return 2;
        }
        return jousts.mayWin(sheet) ? 1 : 0;
    }

    public int won(int knight) {
        return roll.has(knight) ? jousts.countSureWins(knight) : NUMBER;
    }

    public int best() {
        if (roll.size() == 0) {
            return NONE;
        }
        int best = 0;
        for (int knight = 1; knight < roll.size(); knight++) {
            if (jousts.isBetter(knight, best)) {
                best = knight;
            }
        }
        return best;
    }

    // ---- ransoms

    public int owes(int knight) {
        return roll.has(knight) ? jousts.owedBy(knight) : NUMBER;
    }

    public int pay(int joust, int side, int v) {
        if (!jousts.has(joust, side) || !isWithin(v, 1, MOST_PAID_AT_ONCE)) {
            return NUMBER;
        }
        int sheet = Jousts.sheetOf(joust, side);
        if (jousts.owedOf(sheet) < v) {
            return NONE;
        }
        jousts.putDown(sheet, v);
        return jousts.owedOf(sheet);
    }

    public int purse(int knight) {
        return roll.has(knight) ? jousts.gainOf(knight) : NOTHING;
    }

    // ---- challenges

    public int challenge(int knight, int other) {
        if (!roll.hasPair(knight, other)) {
            return NUMBER;
        }
        if (challenges.areTwo(knight, other)) {
            return TWICE;
        }
        if (challenges.isFull()) {
            return FULL;
        }
        return challenges.add(knight, other);
    }

    public int withdraw() {
        if (challenges.size() == 0) {
            return NONE;
        }
        challenges.dropLatest();
        return challenges.size();
    }

    public int turn(int challenge) {
        if (!isWithin(challenge, 0, challenges.size() - 1)) {
            return NUMBER;
        }
        challenges.plan();
        return challenges.plannedTurn(challenge);
    }

    public int turns() {
        challenges.plan();
        return challenges.plannedLength();
    }

    // ---- the camp

    public int feud(int knight, int other, boolean is) {
        if (!roll.hasPair(knight, other)) {
            return NUMBER;
        }
        if (camp.areInFeud(knight, other) == is) {
            return 0;
        }
        camp.setFeud(knight, other, is);
        return 1;
    }

    public int tent(int i) {
        if (!isWithin(i, 0, MOST_TENTS - 1)) {
            return NUMBER;
        }
        return i < camp.pitch(roll) ? camp.knightAt(i) : NONE;
    }

    public int many(int what) {
        switch (what) {
            case 0: return roll.size();
            case 1: return ordinances.size();
            case 2: return ordinances.inForce();
            case 3: return jousts.size();
            case 4: return challenges.size();
            case 5: return camp.countFeuds();
            case 6: return text.length();
            case 7: return roll.countRiders();
            case 8: return jousts.owedInAll();
            case 9: return jousts.paidInAll();
            default: return NUMBER;
        }
    }

    private static boolean isWithin(int value, int least, int greatest) {
        return value >= least && value <= greatest;
    }

    /** The knights with their ranks and arms, and who yields to whom. */
    private static final class Roll {
        private final int[] ranks = new int[MOST_KNIGHTS];
        private final int[] fields = new int[MOST_KNIGHTS];
        private final int[] charges = new int[MOST_KNIGHTS];
        private final int[] tinctures = new int[MOST_KNIGHTS];
        private int size;

        static boolean mayBeRank(int rank) {
            return isWithin(rank, 0, GREATEST_RANK);
        }

        static boolean mayBeArms(int field, int charge, int tincture) {
            return isWithin(field, 0, 5) && isWithin(charge, 0, 9) && isWithin(tincture, 0, 5);
        }

        int size() {
            return size;
        }

        boolean isFull() {
            return size >= MOST_KNIGHTS;
        }

        boolean has(int knight) {
            return knight >= 0 && knight < size;
        }

        boolean hasPair(int knight, int other) {
            return has(knight) && has(other) && knight != other;
        }

        int enter(int rank, int field, int charge, int tincture) {
            int knight = size;
            size++;
            raise(knight, rank);
            paint(knight, field, charge, tincture);
            return knight;
        }

        void raise(int knight, int rank) {
            ranks[knight] = rank;
        }

        void paint(int knight, int field, int charge, int tincture) {
            fields[knight] = field;
            charges[knight] = charge;
            tinctures[knight] = tincture;
        }

        int rankOf(int knight) {
            return ranks[knight];
        }

        int fieldOf(int knight) {
            return fields[knight];
        }

        int chargeOf(int knight) {
            return charges[knight];
        }

        int tinctureOf(int knight) {
            return tinctures[knight];
        }

        boolean areNear(int knight, int other) {
            int alike = 0;
            if (fields[knight] == fields[other]) {
                alike++;
            }
            if (charges[knight] == charges[other]) {
                alike++;
            }
            if (tinctures[knight] == tinctures[other]) {
                alike++;
            }
            return alike >= 2;
        }

        boolean yieldsTo(int knight, int other) {
            if (knight == other || !areNear(knight, other)) {
                return false;
            }
            if (ranks[knight] == ranks[other]) {
                return knight > other;
            }
            return ranks[knight] < ranks[other];
        }

        int leastYieldedTo(int knight) {
            for (int other = 0; other < size; other++) {
                if (yieldsTo(knight, other)) {
                    return other;
                }
            }
            return NOBODY;
        }

        boolean canRide(int knight) {
            return leastYieldedTo(knight) == NOBODY;
        }

        int countNear() {
            int pairs = 0;
            for (int knight = 0; knight < size; knight++) {
                for (int other = knight + 1; other < size; other++) {
                    if (areNear(knight, other)) {
                        pairs++;
                    }
                }
            }
            return pairs;
        }

        int countRiders() {
            int riders = 0;
            for (int knight = 0; knight < size; knight++) {
                if (canRide(knight)) {
                    riders++;
                }
            }
            return riders;
        }
    }

    /**
     * The ordinances, one row of worths each. The row behind the last one is a
     * draft: a text is read into it, and it counts only once it is kept.
     */
    private static final class Ordinances {
        /** More than a sheet can have of one stroke: see standingOf. */
        private static final int TIE_SPAN = COURSES + 1;

        private final int[] worths = new int[MOST_ORDINANCES * STROKES];
        private final int[] ties = new int[MOST_ORDINANCES];
        private int size;
        private int inForce = NOBODY;

        int size() {
            return size;
        }

        boolean isFull() {
            return size >= MOST_ORDINANCES;
        }

        boolean has(int ordinance) {
            return ordinance >= 0 && ordinance < size;
        }

        int inForce() {
            return inForce;
        }

        void putInForce(int ordinance) {
            inForce = ordinance;
        }

        int worthOf(int ordinance, int stroke) {
            return worths[ordinance * STROKES + stroke];
        }

        int tieOf(int ordinance) {
            return ties[ordinance];
        }

        /**
         * What a stroke brings a side: its worth, and as a smaller unit whether it
         * is the one behind the !. The greater of two sums of these is then the
         * winner's, as the count behind the ! matters only where scores are alike.
         */
        int standingOf(int ordinance, int stroke) {
            int counted = stroke != 0 && stroke == ties[ordinance] ? 1 : 0;
            return worths[ordinance * STROKES + stroke] * TIE_SPAN + counted;
        }

        static int scoreIn(int standing) {
            return Math.floorDiv(standing, TIE_SPAN);
        }

        int leastStanding(int ordinance) {
            int least = 0;
            for (int stroke = 1; stroke < STROKES; stroke++) {
                least = Math.min(least, standingOf(ordinance, stroke));
            }
            return least;
        }

        int greatestStanding(int ordinance) {
            int greatest = 0;
            for (int stroke = 1; stroke < STROKES; stroke++) {
                greatest = Math.max(greatest, standingOf(ordinance, stroke));
            }
            return greatest;
        }

        void clearDraft() {
            for (int stroke = 0; stroke < STROKES; stroke++) {
                draftWorth(stroke, 0);
            }
            draftTie(0);
        }

        void draftWorth(int stroke, int worth) {
            worths[size * STROKES + stroke] = worth;
        }

        void draftTie(int stroke) {
            ties[size] = stroke;
        }

        int keepDraft() {
            inForce = size;
            size++;
            return inForce;
        }
    }

    /** The letters that are fed, and the reading of them as an ordinance. */
    private static final class Text {
        static final int SOUND = -1;

        private static final int LETTERS_AT_ONCE = 4;
        /** Stands behind the last letter: no fed letter is 0. */
        private static final int END = 0;

        private final int[] letters = new int[MOST_LETTERS];
        private int length;
        private int at;
        private int named;

        int length() {
            return length;
        }

        int wipe() {
            int before = length;
            length = 0;
            return before;
        }

        boolean append(int v) {
            int more = countLetters(v);
            if (length + more > MOST_LETTERS) {
                return false;
            }
            for (int i = 0; i < more; i++) {
                letters[length + i] = letterIn(v, i);
            }
            length += more;
            return true;
        }

        private static int countLetters(int v) {
            int count = 0;
            while (count < LETTERS_AT_ONCE && letterIn(v, count) != END) {
                count++;
            }
            return count;
        }

        private static int letterIn(int v, int i) {
            return (v >>> (8 * i)) & 255;
        }

        /** The place of the first letter that can't stand where it does, or SOUND. */
        int readInto(Ordinances ordinances) {
            at = 0;
            named = 0;
            ordinances.clearDraft();
            boolean sound = readItems(ordinances) && readTie(ordinances) && at == length;
            return sound ? SOUND : at;
        }

        private boolean readItems(Ordinances ordinances) {
            int items = 0;
            while (items < STROKES && startsItem()) {
                if (!readItem(ordinances)) {
                    return false;
                }
                items++;
            }
            return items > 0;
        }

        private boolean startsItem() {
            int stroke = strokeBy(letter());
            return stroke != 0 && (named & (1 << stroke)) == 0;
        }

        private boolean readItem(Ordinances ordinances) {
            int stroke = strokeBy(letter());
            named |= 1 << stroke;
            at++;
            boolean isLess = letter() == '-';
            if (isLess) {
                at++;
            }
            if (!isFigure(letter())) {
                return false;
            }
            int worth = letter() - '0';
            at++;
            if (isFigure(letter())) {
                worth = worth * 10 + letter() - '0';
                at++;
            }
            ordinances.draftWorth(stroke, isLess ? -worth : worth);
            return true;
        }

        private boolean readTie(Ordinances ordinances) {
            if (letter() != '!') {
                return true;
            }
            at++;
            int stroke = strokeBy(letter());
            if (stroke == 0) {
                return false;
            }
            ordinances.draftTie(stroke);
            at++;
            return true;
        }

        private int letter() {
            return at >= 0 && at < length ? letters[at] : END;
        }

        private static boolean isFigure(int letter) {
            return letter >= '0' && letter <= '9';
        }

        /** The stroke that an item's letter names; 0, which no item may name, for another letter. */
        private static int strokeBy(int letter) {
            switch (letter) {
                case 'b': return 1;
                case 'h': return 2;
                case 'l': return 3;
                case 'u': return 4;
                case 'f': return 5;
                default: return 0;
            }
        }
    }

    /**
     * The jousts. The sheets of joust j have the numbers 2j and 2j + 1, so that
     * the sheet of the other side is sheet ^ 1; rows by sheet hold all the rest.
     */
    private static final class Jousts {
        private static final int SHEETS = MOST_JOUSTS * SIDES;

        private final Roll roll;
        private final Ordinances ordinances;
        private final int[] laws = new int[MOST_JOUSTS];
        private final int[] riders = new int[SHEETS];
        private final int[] paid = new int[SHEETS];
        private final int[] strokes = new int[SHEETS * COURSES];
        private int size;

        Jousts(Roll roll, Ordinances ordinances) {
            this.roll = roll;
            this.ordinances = ordinances;
        }

        static int sheetOf(int joust, int side) {
            return joust * SIDES + side;
        }

        int size() {
            return size;
        }

        boolean isFull() {
            return size >= MOST_JOUSTS;
        }

        boolean has(int joust, int side) {
            return joust >= 0 && joust < size && side >= 0 && side < SIDES;
        }

        int begin(int knight, int other, int ordinance) {
            int joust = size;
            size++;
            laws[joust] = ordinance;
            openSheet(sheetOf(joust, 0), knight);
            openSheet(sheetOf(joust, 1), other);
            return joust;
        }

        private void openSheet(int sheet, int knight) {
            riders[sheet] = knight;
            for (int course = 0; course < COURSES; course++) {
                tell(sheet, course, GAP);
            }
        }

        private int strokeIn(int sheet, int course) {
            return strokes[sheet * COURSES + course];
        }

        int tell(int sheet, int course, int stroke) {
            int before = strokeIn(sheet, course);
            strokes[sheet * COURSES + course] = stroke;
            return before;
        }

        void carryOver(int source, int target, int from, int to, int n) {
            System.arraycopy(strokes, source * COURSES + from, strokes, target * COURSES + to, n);
        }

        int countOf(int sheet, int stroke) {
            int count = 0;
            for (int course = 0; course < COURSES; course++) {
                if (strokeIn(sheet, course) == stroke) {
                    count++;
                }
            }
            return count;
        }

        int leastStanding(int sheet) {
            return standingWith(sheet, ordinances.leastStanding(laws[sheet / SIDES]));
        }

        int greatestStanding(int sheet) {
            return standingWith(sheet, ordinances.greatestStanding(laws[sheet / SIDES]));
        }

        private int standingWith(int sheet, int ofGap) {
            int ordinance = laws[sheet / SIDES];
            int sum = 0;
            for (int course = 0; course < COURSES; course++) {
                int stroke = strokeIn(sheet, course);
                sum += stroke == GAP ? ofGap : ordinances.standingOf(ordinance, stroke);
            }
            return sum;
        }

        boolean winsSurely(int sheet) {
            return leastStanding(sheet) > greatestStanding(sheet ^ 1);
        }

        boolean mayWin(int sheet) {
            return greatestStanding(sheet) > leastStanding(sheet ^ 1);
        }

        int countSureWins(int knight) {
            int wins = 0;
            for (int sheet = 0; sheet < size * SIDES; sheet++) {
                if (riders[sheet] == knight && winsSurely(sheet)) {
                    wins++;
                }
            }
            return wins;
        }

        private int countJousts(int knight) {
            int ridden = 0;
            for (int sheet = 0; sheet < size * SIDES; sheet++) {
                if (riders[sheet] == knight) {
                    ridden++;
                }
            }
            return ridden;
        }

        boolean isBetter(int knight, int other) {
            int wins = countSureWins(knight);
            int winsOfOther = countSureWins(other);
            if (wins != winsOfOther) {
                return wins > winsOfOther;
            }
            return countJousts(knight) < countJousts(other);
        }

        private int ransomOf(int sheet) {
            boolean isUnhorsed = countOf(sheet ^ 1, UNHORSED) > 0;
            return isUnhorsed ? 10 + 10 * roll.rankOf(riders[sheet]) : 0;
        }

        int owedOf(int sheet) {
            return Math.max(0, ransomOf(sheet) - paid[sheet]);
        }

        void putDown(int sheet, int v) {
            paid[sheet] += v;
        }

        int owedBy(int knight) {
            int owed = 0;
            for (int sheet = 0; sheet < size * SIDES; sheet++) {
                if (riders[sheet] == knight) {
                    owed += owedOf(sheet);
                }
            }
            return owed;
        }

        int gainOf(int knight) {
            int gain = 0;
            for (int sheet = 0; sheet < size * SIDES; sheet++) {
                if (riders[sheet] == knight) {
                    gain += paid[sheet ^ 1] - paid[sheet];
                }
            }
            return gain;
        }

        int owedInAll() {
            int owed = 0;
            for (int sheet = 0; sheet < size * SIDES; sheet++) {
                owed += owedOf(sheet);
            }
            return owed;
        }

        int paidInAll() {
            int sum = 0;
            for (int sheet = 0; sheet < size * SIDES; sheet++) {
                sum += paid[sheet];
            }
            return sum;
        }
    }

    /** The challenges and the search for their best plan. */
    private static final class Challenges {
        /** Two turns with one between them, so that a horse rests. */
        private static final int REST = 2;
        private static final int LAST_TURN_EVER = REST * (MOST_CHALLENGES - 1);

        private final int[] knights = new int[MOST_CHALLENGES];
        private final int[] others = new int[MOST_CHALLENGES];
        private final int[] planned = new int[MOST_CHALLENGES];
        private int size;

        int size() {
            return size;
        }

        boolean isFull() {
            return size >= MOST_CHALLENGES;
        }

        boolean areTwo(int knight, int other) {
            for (int i = 0; i < size; i++) {
                if (isOf(i, knight) && isOf(i, other)) {
                    return true;
                }
            }
            return false;
        }

        private boolean isOf(int challenge, int knight) {
            return knights[challenge] == knight || others[challenge] == knight;
        }

        int add(int knight, int other) {
            int challenge = size;
            size++;
            knights[challenge] = knight;
            others[challenge] = other;
            return challenge;
        }

        void dropLatest() {
            size--;
        }

        int plannedTurn(int challenge) {
            return planned[challenge];
        }

        int plannedLength() {
            int length = 0;
            for (int i = 0; i < size; i++) {
                length = Math.max(length, planned[i] + 1);
            }
            return length;
        }

        /**
         * Finds the best plan. Turns of one knight are at least two apart, so none
         * fits below the busiest knight's need. And each odd turn of a plan made
         * less by one leaves a plan, so that the best one has even turns alone and
         * the odd ones need not be tried.
         */
        void plan() {
            for (int last = REST * (countOfBusiest() - 1); last <= LAST_TURN_EVER; last += REST) {
                if (settle(0, last)) {
                    return;
                }
            }
        }

        private int countOfBusiest() {
            int most = 1;
            for (int knight = 0; knight < MOST_KNIGHTS; knight++) {
                int count = 0;
                for (int i = 0; i < size; i++) {
                    if (isOf(i, knight)) {
                        count++;
                    }
                }
                most = Math.max(most, count);
            }
            return most;
        }

        /** Gives this challenge and those behind it the first turns that go, none above last. */
        private boolean settle(int challenge, int last) {
            if (challenge >= size) {
                return true;
            }
            for (int turn = 0; turn <= last; turn += REST) {
                if (isFree(challenge, turn)) {
                    planned[challenge] = turn;
                    if (settle(challenge + 1, last)) {
                        return true;
                    }
                }
            }
            return false;
        }

        private boolean isFree(int challenge, int turn) {
            for (int i = 0; i < challenge; i++) {
                boolean isSameKnight = isOf(i, knights[challenge]) || isOf(i, others[challenge]);
                if (isSameKnight && Math.abs(planned[i] - turn) < REST) {
                    return false;
                }
            }
            return true;
        }
    }

    /** The feuds and the search for the best ring of tents. Sets of knights are bits by number. */
    private static final class Camp {
        private final int[] feuds = new int[MOST_KNIGHTS];
        private final int[] ring = new int[MOST_TENTS];

        boolean areInFeud(int knight, int other) {
            return (feuds[knight] & (1 << other)) != 0;
        }

        void setFeud(int knight, int other, boolean is) {
            if (is) {
                feuds[knight] |= 1 << other;
                feuds[other] |= 1 << knight;
            } else {
                feuds[knight] &= ~(1 << other);
                feuds[other] &= ~(1 << knight);
            }
        }

        int countFeuds() {
            int ends = 0;
            for (int knight = 0; knight < MOST_KNIGHTS; knight++) {
                ends += Integer.bitCount(feuds[knight]);
            }
            return ends / 2;
        }

        int knightAt(int tent) {
            return ring[tent];
        }

        /** Lays the best camp: how many tents it has, 0 where there is no camp. */
        int pitch(Roll roll) {
            int waiting = 0;
            int tents = 0;
            for (int rank = GREATEST_RANK; rank >= 0; rank--) {
                for (int knight = 0; knight < roll.size() && tents < MOST_TENTS; knight++) {
                    if (roll.rankOf(knight) == rank) {
                        if (tents == 0) {
                            ring[0] = knight;
                        } else {
                            waiting |= 1 << knight;
                        }
                        tents++;
                    }
                }
            }
            return tents == 0 || seat(1, waiting) ? tents : 0;
        }

        /** Gives those who wait the tents from this one on, the least numbers that go first. */
        private boolean seat(int tent, int waiting) {
            if (waiting == 0 || tent >= MOST_TENTS) {
                return !areInFeud(ring[tent - 1], ring[0]);
            }
            int fitting = waiting & ~feuds[ring[tent - 1]];
            for (int knight = 0; knight < MOST_KNIGHTS; knight++) {
                if ((fitting & (1 << knight)) != 0) {
                    ring[tent] = knight;
                    if (seat(tent + 1, waiting & ~(1 << knight))) {
                        return true;
                    }
                }
            }
            return false;
        }
    }
}
