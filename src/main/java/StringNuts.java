/**
 * Nuts on strings: ten nuts of four children, days told as small texts, fights, rounds, cups,
 * orders of hardness, rows, lots and years, as ../shared/DOC.md promises them.
 */
public final class StringNuts {
    public static final int UNKNOWN = -1, OUTSIDE = -2, STATE = -3, FULL = -4, NO = -5, NONE = -6;
    public static final long GONE = -1000000000000000000L;

    private static final int NUTS = 10;
    private static final int CHILDREN = 4;
    private static final int MOST_HARD = 99;
    private static final int MOST_CRACKS = 3;
    private static final int LAST_DAY = 99;
    private static final int IMAGES = 2;

    private static final int BLOW = 0;
    private static final int BAKING = 1;
    private static final int SWAP = 2;
    private static final int DAY = 3;

    private final Street now = new Street();
    private final Pad pad = new Pad();
    private final Telling telling = new Telling();
    private final Street trial = telling.street;
    private final RoundFinder rounds = new RoundFinder();
    private final CupCounter cups = new CupCounter();
    private final Sights sights = new Sights();
    private final OrderFinder finder = new OrderFinder();
    private final RowGame rowGame = new RowGame();
    private final Fraction fraction = new Fraction();
    private final Image imageZero = new Image();
    private final Image imageOne = new Image();

    public StringNuts() {
    }

    // ---- 1 nuts

    public int nut(int nut, int hard, int cracks, int child) {
        if (!isNut(nut) || !isChild(child)) {
            return UNKNOWN;
        }
        if (!isWithin(hard, 1, MOST_HARD) || !isWithin(cracks, 0, MOST_CRACKS - 1)) {
            return OUTSIDE;
        }
        int before = now.score[nut];
        now.setOne(nut, hard, cracks, child);
        return before;
    }

    public int say(int sign) {
        if (!isWithin(sign, Pad.LEAST_SIGN, Pad.GREATEST_SIGN)) {
            return OUTSIDE;
        }
        return pad.add(sign) ? pad.size : FULL;
    }

    public int wipe() {
        int before = pad.size;
        pad.size = 0;
        return before;
    }

    public int fault() {
        return pad.findFault();
    }

    // ---- 2 days

    public int judge(int what) {
        if (!isWithin(what, 0, 2)) {
            return OUTSIDE;
        }
        int refusal = tellDays();
        if (refusal == NO || what == 2 && refusal == STATE) {
            return refusal;
        }
        return what == 0 ? telling.badAct : what == 1 ? telling.why : telling.breaks;
    }

    public int behind(int nut, int what) {
        if (!isNut(nut)) {
            return UNKNOWN;
        }
        if (!isWithin(what, 0, Street.TRAITS - 1)) {
            return OUTSIDE;
        }
        int refusal = tellDays();
        return refusal != 0 ? refusal : trial.traitOf(nut, what);
    }

    public int child(int child, int what) {
        if (!isChild(child)) {
            return UNKNOWN;
        }
        if (!isWithin(what, 0, 1)) {
            return OUTSIDE;
        }
        int refusal = tellDays();
        if (refusal != 0) {
            return refusal;
        }
        return what == 0 ? trial.scoresOfChild(child) : trial.nutsOfChild(child);
    }

    public int street(int what) {
        if (!isWithin(what, 0, 2)) {
            return OUTSIDE;
        }
        int refusal = tellDays();
        if (refusal != 0) {
            return refusal;
        }
        return what == 0 ? trial.brokenNuts() : what == 1 ? trial.day : trial.nutOfMostScore();
    }

    public int first(int what) {
        if (!isWithin(what, 0, 1)) {
            return OUTSIDE;
        }
        int refusal = tellDays();
        if (refusal != 0) {
            return refusal;
        }
        return what == 0 ? telling.firstAct : telling.firstNut;
    }

    public int done() {
        int refusal = tellDays();
        if (refusal != 0) {
            return refusal;
        }
        now.copyFrom(trial);
        pad.size = 0;
        return telling.acts;
    }

    /** Tells the pad's days on the trial street; answers NO, STATE, or 0 if all of them can be. */
    private int tellDays() {
        if (pad.findFault() != NONE) {
            return NO;
        }
        telling.tell(pad, now);
        return telling.badAct == NONE ? 0 : STATE;
    }

    // ---- 3 fights, rounds, cups

    public int fight(int one, int other, int what) {
        if (!isNut(one) || !isNut(other) || one == other) {
            return UNKNOWN;
        }
        if (!isWithin(what, 0, 2)) {
            return OUTSIDE;
        }
        if (now.isBroken(one) || now.isBroken(other)) {
            return STATE;
        }
        int winner = now.duel(now.fighterOf(one), now.fighterOf(other));
        if (what == 0) {
            return Street.nutOf(winner);
        }
        if (what == 2) {
            return Street.cracksOf(winner);
        }
        // Each blow makes one crack, so the cracks that came tell the blows.
        int loser = Street.nutOf(winner) == one ? other : one;
        return winner - now.fighterOf(Street.nutOf(winner)) + MOST_CRACKS - now.cracks[loser];
    }

    public int round(int nut, int what) {
        if (!isNut(nut)) {
            return UNKNOWN;
        }
        if (!isWithin(what, 0, 1)) {
            return OUTSIDE;
        }
        if (now.isBroken(nut)) {
            return NONE;
        }
        int most = rounds.mostBroken(now, nut);
        return what == 0 ? Integer.bitCount(most) : most;
    }

    public int cup(int nut) {
        if (!isWithin(nut, 0, CupCounter.ENTRIES - 1)) {
            return UNKNOWN;
        }
        if ((now.brokenNuts() & CupCounter.ALL) != 0) {
            return STATE;
        }
        return cups.winsOf(now, nut);
    }

    // ---- 4 orders, rows, lots

    public int harder(int x, int y) {
        if (!isWithin(x, 0, OrderFinder.UNLIKE - 1) || !isWithin(y, 0, OrderFinder.UNLIKE - 1) || x == y) {
            return OUTSIDE;
        }
        return sights.add(x, y) ? sights.size : FULL;
    }

    public int forget() {
        int before = sights.size;
        sights.size = 0;
        return before;
    }

    public int orders(int i) {
        return i == -1 ? finder.countFitting(sights) : finder.findFitting(sights, i);
    }

    public int ask(int what) {
        if (!isWithin(what, 0, 1)) {
            return OUTSIDE;
        }
        finder.findQuestion(sights);
        return what == 0 ? finder.question : finder.leftAtMost;
    }

    public int row(int n, int what) {
        if (!isWithin(n, 0, RowGame.LONGEST) || !isWithin(what, 0, 1)) {
            return OUTSIDE;
        }
        int taken = rowGame.firstWinningMove(n);
        if (what == 1) {
            return taken;
        }
        return taken == NONE ? 0 : 1;
    }

    public long lot(int k, int i, int r, int what, int part) {
        if (!isWithin(k, 1, Lottery.MOST_ROUNDS) || !isWithin(i, 0, (1 << k) - 1) || !isWithin(r, 0, k)) {
            return GONE + OUTSIDE;
        }
        if (!isWithin(what, 0, 1) || !isWithin(part, 0, 1)) {
            return GONE + OUTSIDE;
        }
        if (what == 0) {
            Lottery.putChance(fraction, k, i, r);
        } else {
            Lottery.putMean(fraction, k, i);
        }
        return part == 0 ? fraction.upper : fraction.lower;
    }

    public int year(int seed, int m, int what) {
        if (!isWithin(seed, 0, 9999) || !isWithin(m, 1, 99) || !isWithin(what, 0, 2)) {
            return OUTSIDE;
        }
        trial.copyFrom(now);
        trial.passByDraws(seed, m);
        return what == 0 ? trial.brokenNuts() : what == 1 ? trial.mostScore() : trial.scoresOfChild(0);
    }

    public int image(int k) {
        if (!isWithin(k, 0, IMAGES - 1)) {
            return OUTSIDE;
        }
        imageAt(k).keep(now, sights);
        return 1;
    }

    public int restore(int k) {
        if (!isWithin(k, 0, IMAGES - 1)) {
            return OUTSIDE;
        }
        if (!imageAt(k).kept) {
            return STATE;
        }
        now.copyFrom(imageAt(k).street);
        sights.copyFrom(imageAt(k).sights);
        return 1;
    }

    public int told(int what) {
        switch (what) {
            case 0:
                return pad.size;
            case 1:
                return now.brokenNuts();
            case 2:
                return now.day;
            case 3:
                return sights.size;
            default:
                return isWithin(what, 10, 59) ? now.traitOf(what % 10, what / 10 - 1) : OUTSIDE;
        }
    }

    private Image imageAt(int k) {
        return k == 0 ? imageZero : imageOne;
    }

    private static boolean isNut(int number) {
        return isWithin(number, 0, NUTS - 1);
    }

    private static boolean isChild(int number) {
        return isWithin(number, 0, CHILDREN - 1);
    }

    private static boolean isWithin(int number, int least, int greatest) {
        return number >= least && number <= greatest;
    }

    /** The ten nuts and the day. */
    private static final class Street {
        static final int TRAITS = 5;

        private static final int LOST_BY_CRACK = 7;
        private static final int BAKED_BY = 10;
        private static final int BRITTLE = 60;
        private static final int MOST_BLOWS = 2 * MOST_CRACKS - 1;

        final int[] hard = new int[NUTS];
        final int[] cracks = new int[NUTS];
        final int[] score = new int[NUTS];
        final int[] owner = new int[NUTS];
        final int[] inside = new int[NUTS];
        int day;

        Street() {
            for (int nut = 0; nut < NUTS; nut++) {
                setOne(nut, 10 * nut + 5, 0, nut % CHILDREN);
            }
        }

        void setOne(int nut, int hardness, int crackCount, int child) {
            hard[nut] = hardness;
            cracks[nut] = crackCount;
            score[nut] = 1;
            owner[nut] = child;
            inside[nut] = 1 << nut;
        }

        void copyFrom(Street from) {
            for (int nut = 0; nut < NUTS; nut++) {
                hard[nut] = from.hard[nut];
                cracks[nut] = from.cracks[nut];
                score[nut] = from.score[nut];
                owner[nut] = from.owner[nut];
                inside[nut] = from.inside[nut];
            }
            day = from.day;
        }

        int traitOf(int nut, int trait) {
            switch (trait) {
                case 0:
                    return hard[nut];
                case 1:
                    return cracks[nut];
                case 2:
                    return score[nut];
                case 3:
                    return owner[nut];
                default:
                    return inside[nut];
            }
        }

        boolean isBroken(int nut) {
            return cracks[nut] == MOST_CRACKS;
        }

        int brokenNuts() {
            int broken = 0;
            for (int nut = 0; nut < NUTS; nut++) {
                if (isBroken(nut)) {
                    broken |= 1 << nut;
                }
            }
            return broken;
        }

        int nutsOfChild(int child) {
            int nuts = 0;
            for (int nut = 0; nut < NUTS; nut++) {
                if (owner[nut] == child && !isBroken(nut)) {
                    nuts |= 1 << nut;
                }
            }
            return nuts;
        }

        int scoresOfChild(int child) {
            int sum = 0;
            for (int nut = 0; nut < NUTS; nut++) {
                if (owner[nut] == child && !isBroken(nut)) {
                    sum += score[nut];
                }
            }
            return sum;
        }

        int nutOfMostScore() {
            int most = 0;
            int which = NONE;
            for (int nut = 0; nut < NUTS; nut++) {
                if (!isBroken(nut) && score[nut] > most) {
                    most = score[nut];
                    which = nut;
                }
            }
            return which;
        }

        int mostScore() {
            int which = nutOfMostScore();
            return which == NONE ? 0 : score[which];
        }

        /** Why an act can not be, or 0 if it can; the other is a nut for a blow, a child for a swap. */
        int whyNot(int kind, int nut, int other) {
            if (kind == DAY) {
                return day >= LAST_DAY ? 5 : 0;
            }
            if (isBroken(nut) || kind == BLOW && isBroken(other)) {
                return 1;
            }
            if (kind == BLOW) {
                return owner[nut] == owner[other] ? 2 : 0;
            }
            if (kind == BAKING) {
                return hard[nut] >= MOST_HARD ? 3 : 0;
            }
            return owner[nut] == other ? 4 : 0;
        }

        /** Does an act that can be; answers the nut that broke by it, or NONE. */
        int perform(int kind, int nut, int other) {
            switch (kind) {
                case BLOW:
                    return strike(nut, other);
                case BAKING:
                    return bake(nut);
                case SWAP:
                    owner[nut] = other;
                    return NONE;
                default:
                    passDay();
                    return NONE;
            }
        }

        private int strike(int striker, int struck) {
            boolean holds = forceOf(striker, cracks[striker]) >= forceOf(struck, cracks[struck]);
            int cracked = holds ? struck : striker;
            int whole = holds ? striker : struck;
            cracks[cracked]++;
            if (!isBroken(cracked)) {
                return NONE;
            }
            score[whole] += score[cracked];
            inside[whole] |= inside[cracked];
            return cracked;
        }

        private int bake(int nut) {
            if (hard[nut] >= BRITTLE) {
                cracks[nut]++;
            }
            hard[nut] = Math.min(MOST_HARD, hard[nut] + BAKED_BY);
            return isBroken(nut) ? nut : NONE;
        }

        private void passDay() {
            for (int nut = 0; nut < NUTS; nut++) {
                if (!isBroken(nut) && hard[nut] < MOST_HARD) {
                    hard[nut]++;
                }
            }
            day++;
        }

        private int forceOf(int nut, int crackCount) {
            int force = hard[nut] - LOST_BY_CRACK * crackCount;
            return force < 0 ? 0 : force;
        }

        void passByDraws(int seed, int draws) {
            int x = seed;
            for (int draw = 0; draw < draws; draw++) {
                x = (75 * x + 74) % 65537;
                int kind = kindOfDraw(x / 10 % 8);
                int z = x / 80;
                int other = kind == SWAP ? z % CHILDREN : z % NUTS;
                if (whyNot(kind, x % NUTS, other) == 0) {
                    perform(kind, x % NUTS, other);
                }
            }
        }

        private static int kindOfDraw(int draw) {
            if (draw <= 3) {
                return BLOW;
            }
            return draw == 4 ? BAKING : draw == 5 ? SWAP : DAY;
        }

        // A fighter is a nut with the cracks that it has by then, as one number (4 times the nut, and
        // the cracks), so that rounds and cups can try fights without a street for each.

        int fighterOf(int nut) {
            return fighterWith(nut, cracks[nut]);
        }

        static int fighterWith(int nut, int crackCount) {
            return (MOST_CRACKS + 1) * nut + crackCount;
        }

        static int nutOf(int fighter) {
            return fighter / (MOST_CRACKS + 1);
        }

        static int cracksOf(int fighter) {
            return fighter % (MOST_CRACKS + 1);
        }

        /** The fighter that is left when two that are whole strike by turns, the first one first. */
        int duel(int one, int other) {
            int striker = one;
            int struck = other;
            for (int blow = 0; blow < MOST_BLOWS; blow++) {
                int force = forceOf(nutOf(striker), cracksOf(striker));
                if (force >= forceOf(nutOf(struck), cracksOf(struck))) {
                    struck++;
                } else {
                    striker++;
                }
                if (cracksOf(struck) == MOST_CRACKS) {
                    return striker;
                }
                if (cracksOf(striker) == MOST_CRACKS) {
                    return struck;
                }
                int next = struck;
                struck = striker;
                striker = next;
            }
            return striker;
        }
    }

    /** The signs of the days that are not done yet. */
    private static final class Pad {
        static final int LEAST_SIGN = 33;
        static final int GREATEST_SIGN = 126;
        static final int MOST_SIGNS = 60;

        private static final int NO_SIGN = 0;

        private final int[] signs = new int[MOST_SIGNS];
        int size;

        boolean add(int sign) {
            if (size >= MOST_SIGNS) {
                return false;
            }
            signs[size] = sign;
            size++;
            return true;
        }

        int signAt(int place) {
            return place >= 0 && place < size ? signs[place] : NO_SIGN;
        }

        /** The nut whose letter stands there, or UNKNOWN. */
        int nutAt(int place) {
            int nut = signAt(place) - 'A';
            return isNut(nut) ? nut : UNKNOWN;
        }

        /** The child whose digit stands there, or UNKNOWN. */
        int childAt(int place) {
            int child = signAt(place) - '0';
            return isChild(child) ? child : UNKNOWN;
        }

        int findFault() {
            int place = 0;
            for (int act = 0; act < MOST_SIGNS && place < size; act++) {
                int fault = faultOfActAt(place);
                if (fault != NONE) {
                    return fault;
                }
                place += lengthOfActAt(place);
            }
            return NONE;
        }

        // Behind the last sign there is no sign, which can not stand anywhere: so the place of a sign
        // that must still come is the number of signs by itself.
        private int faultOfActAt(int place) {
            if (signAt(place) == '.') {
                return NONE;
            }
            if (nutAt(place) == UNKNOWN) {
                return place;
            }
            if (signAt(place + 1) == '>') {
                return nutAt(place + 2) == UNKNOWN ? place + 2 : NONE;
            }
            boolean whole = signAt(place + 1) == '*' || childAt(place + 1) != UNKNOWN;
            return whole ? NONE : place + 1;
        }

        int kindOfActAt(int place) {
            if (signAt(place) == '.') {
                return DAY;
            }
            if (signAt(place + 1) == '>') {
                return BLOW;
            }
            return signAt(place + 1) == '*' ? BAKING : SWAP;
        }

        int lengthOfActAt(int place) {
            int kind = kindOfActAt(place);
            return kind == DAY ? 1 : kind == BLOW ? 3 : 2;
        }
    }

    /** What comes of the pad's days, up to the first act that can not be. */
    private static final class Telling {
        final Street street = new Street();
        int acts;
        int badAct;
        int why;
        int breaks;
        int firstAct;
        int firstNut;

        /** The pad must have no fault. */
        void tell(Pad pad, Street from) {
            street.copyFrom(from);
            acts = 0;
            badAct = NONE;
            why = NONE;
            breaks = 0;
            firstAct = NONE;
            firstNut = NONE;
            int place = 0;
            for (int act = 0; act < Pad.MOST_SIGNS && place < pad.size && badAct == NONE; act++) {
                tellAct(pad, place);
                place += pad.lengthOfActAt(place);
            }
        }

        private void tellAct(Pad pad, int place) {
            int kind = pad.kindOfActAt(place);
            int nut = kind == DAY ? 0 : pad.nutAt(place);
            int other = kind == BLOW ? pad.nutAt(place + 2) : kind == SWAP ? pad.childAt(place + 1) : 0;
            if (nut == UNKNOWN || other == UNKNOWN) {
                return;
            }
            int reason = street.whyNot(kind, nut, other);
            if (reason != 0) {
                badAct = acts;
                why = reason;
                return;
            }
            noteBreak(street.perform(kind, nut, other));
            acts++;
        }

        private void noteBreak(int broken) {
            if (broken == NONE) {
                return;
            }
            if (breaks == 0) {
                firstAct = acts;
                firstNut = broken;
            }
            breaks++;
        }
    }

    /** The most that one nut can break, one behind another. */
    private static final class RoundFinder {
        private static final int SETS = 1 << NUTS;

        /** By set of nuts that it broke: the cracks (bits) that it can have after them. */
        private final int[] reached = new int[SETS];
        /** By 3 times the other nut, and its own cracks ahead of that fight: its cracks after it (3: it lost). */
        private final int[] afterFight = new int[NUTS * MOST_CRACKS];

        int mostBroken(Street street, int nut) {
            for (int other = 0; other < NUTS; other++) {
                tryFights(street, nut, other);
            }
            for (int set = 0; set < SETS; set++) {
                reached[set] = 0;
            }
            reached[0] = 1 << street.cracks[nut];
            int most = 0;
            for (int set = 0; set < SETS; set++) {
                if (reached[set] != 0) {
                    // Sets rise, so the first one of as many is the least.
                    if (Integer.bitCount(set) > Integer.bitCount(most)) {
                        most = set;
                    }
                    spreadFrom(set);
                }
            }
            return most;
        }

        private void tryFights(Street street, int nut, int other) {
            boolean open = other != nut && !street.isBroken(other);
            for (int ahead = 0; ahead < MOST_CRACKS; ahead++) {
                int after = MOST_CRACKS;
                if (open) {
                    int winner = street.duel(Street.fighterWith(nut, ahead), street.fighterOf(other));
                    after = Street.nutOf(winner) == nut ? Street.cracksOf(winner) : MOST_CRACKS;
                }
                afterFight[MOST_CRACKS * other + ahead] = after;
            }
        }

        private void spreadFrom(int set) {
            for (int other = 0; other < NUTS; other++) {
                if ((set >> other & 1) == 0) {
                    reached[set | 1 << other] |= cracksAfter(reached[set], other);
                }
            }
        }

        private int cracksAfter(int cracksAhead, int other) {
            int found = 0;
            for (int ahead = 0; ahead < MOST_CRACKS; ahead++) {
                int after = afterFight[MOST_CRACKS * other + ahead];
                if ((cracksAhead >> ahead & 1) == 1 && after < MOST_CRACKS) {
                    found |= 1 << after;
                }
            }
            return found;
        }
    }

    /** In how many of the 315 cups of nuts 0 to 7 one of them wins. */
    private static final class CupCounter {
        static final int ENTRIES = 8;
        static final int ALL = (1 << ENTRIES) - 1;

        private static final int HALF = ENTRIES / 2;
        private static final int WAYS = 3;

        private final int[] members = new int[HALF];
        private final int[] winnersHere = new int[WAYS];
        private final int[] winnersThere = new int[WAYS];

        int winsOf(Street street, int nut) {
            int wins = 0;
            // Only halves with nut 0 (odd ones), or each split would be counted twice.
            for (int half = 1; half <= ALL; half += 2) {
                if (Integer.bitCount(half) == HALF) {
                    wins += winsInSplit(street, half, nut);
                }
            }
            return wins;
        }

        private int winsInSplit(Street street, int half, int nut) {
            fillWinners(street, half, winnersHere);
            fillWinners(street, ALL - half, winnersThere);
            int wins = 0;
            for (int here = 0; here < WAYS; here++) {
                for (int there = 0; there < WAYS; there++) {
                    int winner = meet(street, winnersHere[here], winnersThere[there]);
                    if (Street.nutOf(winner) == nut) {
                        wins++;
                    }
                }
            }
            return wins;
        }

        /** Who wins a half of four, for each of the three ways in which they can meet. */
        private void fillWinners(Street street, int half, int[] winners) {
            int found = 0;
            for (int nut = 0; nut < ENTRIES; nut++) {
                if ((half >> nut & 1) == 1 && found < HALF) {
                    members[found] = street.fighterOf(nut);
                    found++;
                }
            }
            for (int way = 0; way < WAYS; way++) {
                int mate = way + 1;
                int third = mate == 1 ? 2 : 1;
                int fourth = mate == 3 ? 2 : 3;
                int one = meet(street, members[0], members[mate]);
                int other = meet(street, members[third], members[fourth]);
                winners[way] = meet(street, one, other);
            }
        }

        private static int meet(Street street, int one, int other) {
            return Street.nutOf(one) < Street.nutOf(other) ? street.duel(one, other) : street.duel(other, one);
        }
    }

    /** What has been seen of the five unlike nuts: which is harder than which. */
    private static final class Sights {
        private static final int MOST_SIGHTS = 8;

        private final int[] harderOnes = new int[MOST_SIGHTS];
        private final int[] softerOnes = new int[MOST_SIGHTS];
        int size;

        boolean add(int x, int y) {
            if (size >= MOST_SIGHTS) {
                return false;
            }
            harderOnes[size] = x;
            softerOnes[size] = y;
            size++;
            return true;
        }

        void copyFrom(Sights from) {
            for (int sight = 0; sight < MOST_SIGHTS; sight++) {
                harderOnes[sight] = from.harderOnes[sight];
                softerOnes[sight] = from.softerOnes[sight];
            }
            size = from.size;
        }

        boolean fit(int[] places) {
            for (int sight = 0; sight < size; sight++) {
                if (places[harderOnes[sight]] > places[softerOnes[sight]]) {
                    return false;
                }
            }
            return true;
        }
    }

    /** The orders of five unlike nuts that fit the sights, and what to ask about next. */
    private static final class OrderFinder {
        static final int UNLIKE = 5;

        private static final int ALL_ORDERS = 120;

        /** Of the order that was laid last: at which place each nut is. */
        private final int[] places = new int[UNLIKE];
        /** By 5 times x, and y: in how many orders that fit x is harder than y. */
        private final int[] timesHarder = new int[UNLIKE * UNLIKE];
        int question;
        int leftAtMost;

        int countFitting(Sights sights) {
            int count = 0;
            for (int order = 0; order < ALL_ORDERS; order++) {
                layOrder(order);
                if (sights.fit(places)) {
                    count++;
                }
            }
            return count;
        }

        int findFitting(Sights sights, int index) {
            int count = 0;
            for (int order = 0; order < ALL_ORDERS; order++) {
                int number = layOrder(order);
                if (sights.fit(places)) {
                    if (count == index) {
                        return number;
                    }
                    count++;
                }
            }
            return NONE;
        }

        void findQuestion(Sights sights) {
            question = NONE;
            leftAtMost = NONE;
            int fitting = countPairs(sights);
            if (fitting == 0) {
                return;
            }
            for (int x = 0; x < UNLIKE; x++) {
                for (int y = x + 1; y < UNLIKE; y++) {
                    int times = timesHarder[UNLIKE * x + y];
                    int left = Math.max(times, fitting - times);
                    if (question == NONE || left < leftAtMost) {
                        question = 10 * x + y;
                        leftAtMost = left;
                    }
                }
            }
        }

        private int countPairs(Sights sights) {
            for (int pair = 0; pair < UNLIKE * UNLIKE; pair++) {
                timesHarder[pair] = 0;
            }
            int fitting = 0;
            for (int order = 0; order < ALL_ORDERS; order++) {
                layOrder(order);
                if (sights.fit(places)) {
                    fitting++;
                    addPairs();
                }
            }
            return fitting;
        }

        private void addPairs() {
            for (int x = 0; x < UNLIKE; x++) {
                for (int y = x + 1; y < UNLIKE; y++) {
                    if (places[x] < places[y]) {
                        timesHarder[UNLIKE * x + y]++;
                    }
                }
            }
        }

        /** Lays the order of that index (rising) out in places; answers its row as a number. */
        private int layOrder(int order) {
            int used = 0;
            int number = 0;
            for (int place = 0; place < UNLIKE; place++) {
                int nut = unusedNut(used, unusedAhead(order, place));
                places[nut] = place;
                used |= 1 << nut;
                number = 10 * number + nut;
            }
            return number;
        }

        // Behind the first place there are 24 orders of the other nuts, behind the next 6, 2, 1: so an
        // index, by these, tells how many of the nuts that are left each place passes over.
        private static int unusedAhead(int order, int place) {
            switch (place) {
                case 0:
                    return order / 24;
                case 1:
                    return order / 6 % 4;
                case 2:
                    return order / 2 % 3;
                case 3:
                    return order % 2;
                default:
                    return 0;
            }
        }

        /** The nut that is not used yet and has so many unused ones ahead of it. */
        private static int unusedNut(int used, int ahead) {
            int passed = 0;
            for (int nut = 0; nut < UNLIKE; nut++) {
                if ((used >> nut & 1) == 0) {
                    if (passed == ahead) {
                        return nut;
                    }
                    passed++;
                }
            }
            return 0;
        }
    }

    /** The row from which one and its neighbours go, by turns. */
    private static final class RowGame {
        static final int LONGEST = 99;

        private static final int MOST_WORTH = 62;

        /** What unbroken rows are worth (Grundy's numbers: 0 is lost), as far as they are known. */
        private final int[] worth = new int[LONGEST + 1];
        private int known = 1;

        int firstWinningMove(int n) {
            learnWorths(n - 1);
            for (int taken = 0; taken < n; taken++) {
                if (worthBehind(n, taken) == 0) {
                    return taken;
                }
            }
            return NONE;
        }

        private void learnWorths(int longest) {
            for (int n = known; n <= longest && n <= LONGEST; n++) {
                worth[n] = leastNotReached(n);
                known = n + 1;
            }
        }

        private int leastNotReached(int n) {
            long reached = 0;
            for (int taken = 0; taken < n; taken++) {
                reached |= 1L << worthBehind(n, taken);
            }
            int least = 0;
            while (least < MOST_WORTH && (reached >> least & 1) == 1) {
                least++;
            }
            return least;
        }

        private int worthBehind(int n, int taken) {
            int left = Math.max(0, taken - 1);
            int right = Math.max(0, n - taken - 2);
            return worth[left] ^ worth[right];
        }
    }

    /** Chances in a cup by lot that the harder one always wins. */
    private static final class Lottery {
        static final int MOST_ROUNDS = 5;

        /** It wins so many fights if all others of its part of the cup are softer. */
        static void putChance(Fraction fraction, int rounds, int rank, int wins) {
            fraction.put(0, 1);
            addChance(fraction, rounds, rank, wins);
        }

        /** The mean is the sum of the chances of one at least, two at least, and so on. */
        static void putMean(Fraction fraction, int rounds, int rank) {
            fraction.put(0, 1);
            for (int wins = 1; wins <= rounds; wins++) {
                addChance(fraction, rounds, rank, wins);
            }
        }

        private static void addChance(Fraction fraction, int rounds, int rank, int wins) {
            int others = (1 << rounds) - 1;
            int beaten = (1 << wins) - 1;
            fraction.add(choices(others - rank, beaten), choices(others, beaten));
        }

        private static long choices(int from, int taken) {
            if (taken > from) {
                return 0;
            }
            long ways = 1;
            for (int step = 1; step <= taken; step++) {
                ways = ways * (from - taken + step) / step;
            }
            return ways;
        }
    }

    /** A fraction in lowest terms. */
    private static final class Fraction {
        private static final int MOST_STEPS = 200;

        long upper;
        long lower = 1;

        void put(long up, long low) {
            long common = commonDivisor(up, low);
            if (common > 0) {
                upper = up / common;
                lower = low / common;
            }
        }

        void add(long up, long low) {
            long common = commonDivisor(lower, low);
            if (common > 0) {
                put(upper * (low / common) + up * (lower / common), lower / common * low);
            }
        }

        private static long commonDivisor(long one, long other) {
            long greater = one;
            long lesser = other;
            for (int step = 0; step < MOST_STEPS && lesser != 0; step++) {
                long rest = greater % lesser;
                greater = lesser;
                lesser = rest;
            }
            return greater;
        }
    }

    /** All but the pad, as it was when it was kept. */
    private static final class Image {
        final Street street = new Street();
        final Sights sights = new Sights();
        boolean kept;

        void keep(Street fromStreet, Sights fromSights) {
            street.copyFrom(fromStreet);
            sights.copyFrom(fromSights);
            kept = true;
        }
    }
}
