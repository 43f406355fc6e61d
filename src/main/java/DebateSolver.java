/** A solver for debates. Sets of arguments are told as the sum of the powers 2^k of their numbers k. */
public final class DebateSolver {
    private static final int MOST_ARGUMENTS = 12;
    private static final int ALL_SETS = 4096;
    private static final int GREATEST_WEIGHT = 9;
    private static final int GREATEST_TOLERANCE = 9;

    private static final int COMPLETE = 0;
    private static final int GROUNDED = 1;
    private static final int PREFERRED = 2;
    private static final int STABLE = 3;
    private static final int STAGE = 4;
    private static final int SEMISTABLE = 5;
    private static final int IDEAL = 6;
    private static final int KINDS = 7;

    private static final int UNDECIDED = 0;
    private static final int IN = 1;
    private static final int OUT = 2;

    private final int[] weights;
    /** For each argument the set of those that it attacks, working or not. */
    private final int[] made;
    private final Attacks working;
    /** A second one, for questions about another tolerance. */
    private final Attacks supposed;
    private final Positions found;
    private int count;
    private int present;
    private int tolerance;
    private boolean isSearched;

    public DebateSolver() {
        weights = new int[MOST_ARGUMENTS];
        made = new int[MOST_ARGUMENTS];
        working = new Attacks();
        supposed = new Attacks();
        found = new Positions();
        count = 0;
        present = 0;
        tolerance = GREATEST_TOLERANCE;
        isSearched = false;
    }

    // ---- arguments and attacks

    public int addArgument(int weight) throws IllegalArgumentException, IllegalStateException {
        checkWeight(weight);
        if (count >= MOST_ARGUMENTS) {
            throw new IllegalStateException("there are 12 arguments");
        }
        int argument = count;
        count++;
        store(weights, argument, weight);
        present |= 1 << argument;
        refresh();
        return argument;
    }

    public int setWeight(int argument, int weight) throws IndexOutOfBoundsException, IllegalArgumentException {
        checkArgument(argument);
        checkWeight(weight);
        int before = at(weights, argument);
        store(weights, argument, weight);
        refresh();
        return before;
    }

    public boolean put(int argument, boolean isIn) throws IndexOutOfBoundsException {
        checkArgument(argument);
        boolean before = has(present, argument);
        present = with(present, argument, isIn);
        refresh();
        return before;
    }

    public boolean attack(int from, int to, boolean isOn) throws IndexOutOfBoundsException {
        checkArgument(from);
        checkArgument(to);
        int targets = at(made, from);
        store(made, from, with(targets, to, isOn));
        refresh();
        return has(targets, to);
    }

    public int setTolerance(int tolerance) throws IllegalArgumentException {
        if (tolerance < 0 || tolerance > GREATEST_TOLERANCE) {
            throw new IllegalArgumentException("tolerance is not 0 to 9");
        }
        int before = this.tolerance;
        this.tolerance = tolerance;
        refresh();
        return before;
    }

    public int argumentCount() {
        return count;
    }

    public int debate() {
        return present;
    }

    public int attackers(int argument) throws IndexOutOfBoundsException {
        checkArgument(argument);
        return working.sourcesOf(argument);
    }

    public int attacked(int argument) throws IndexOutOfBoundsException {
        checkArgument(argument);
        return working.targetsOf(argument);
    }

    public int attackCount() {
        int sum = 0;
        for (int argument = 0; argument < count; argument++) {
            sum += Integer.bitCount(working.sourcesOf(argument));
        }
        return sum;
    }

    // ---- sets of arguments

    public boolean isFree(int set) throws IllegalArgumentException {
        checkSet(set);
        return working.isPeaceful(set & present);
    }

    public int defended(int set) throws IllegalArgumentException {
        checkSet(set);
        return working.guardedBy(set & present);
    }

    public boolean isAdmissible(int set) throws IllegalArgumentException {
        checkSet(set);
        int members = set & present;
        return working.isPeaceful(members) && (members & ~working.guardedBy(members)) == 0;
    }

    public int label(int argument, int set) throws IndexOutOfBoundsException, IllegalArgumentException {
        checkArgument(argument);
        checkSet(set);
        int members = set & present;
        int isMember = has(members, argument) ? IN : UNDECIDED;
        int isAttacked = (working.sourcesOf(argument) & members) != 0 ? OUT : UNDECIDED;
        return isMember | isAttacked;
    }

    public int repair(int set) throws IllegalArgumentException {
        checkSet(set);
        int left = set & present;
        for (int step = 0; step < MOST_ARGUMENTS && !working.isPeaceful(left); step++) {
            left = with(left, mostQuarrelsome(left), false);
        }
        return working.guardedPart(left);
    }

    // ---- positions

    public int positions(int kind) throws IndexOutOfBoundsException {
        checkKind(kind);
        return search(kind).size();
    }

    public int position(int kind, int index) throws IndexOutOfBoundsException {
        checkKind(kind);
        SetList list = search(kind);
        if (index < 0 || index >= list.size()) {
            throw new IndexOutOfBoundsException("there is no such position");
        }
        return list.get(index);
    }

    public int accepted(int kind, boolean isAll) throws IndexOutOfBoundsException {
        checkKind(kind);
        SetList list = search(kind);
        return isAll ? list.commonPart(present) : list.union();
    }

    public int heaviest(int kind) throws IndexOutOfBoundsException {
        checkKind(kind);
        SetList list = search(kind);
        int best = -1;
        int greatest = -1;
        for (int index = 0; index < list.size(); index++) {
            int weight = weightOf(list.get(index));
            if (weight > greatest) {
                greatest = weight;
                best = list.get(index);
            }
        }
        return best;
    }

    public double support(int argument) throws IndexOutOfBoundsException {
        checkArgument(argument);
        SetList list = search(COMPLETE);
        int having = 0;
        for (int index = 0; index < list.size(); index++) {
            if (has(list.get(index), argument)) {
                having++;
            }
        }
        return list.size() == 0 ? 0.0 : (double) having / list.size();
    }

    public int round(int argument) throws IndexOutOfBoundsException {
        checkArgument(argument);
        int reached = 0;
        for (int round = 1; round <= MOST_ARGUMENTS; round++) {
            reached = working.guardedBy(reached);
            if (has(reached, argument)) {
                return round;
            }
        }
        return 0;
    }

    public int rounds() {
        int reached = 0;
        for (int round = 0; round < MOST_ARGUMENTS; round++) {
            int next = working.guardedBy(reached);
            if (next == reached) {
                return round;
            }
            reached = next;
        }
        return MOST_ARGUMENTS;
    }

    // ---- disputes and changes

    /*
     * No dispute has to be played. For an argument of the grounded set the first player answers each
     * attack with one of an earlier round: it is new, as the rounds go down, and the second player never
     * has it, as nothing in the grounded set attacks another in it. For any other argument the second
     * player always finds an attacker that the grounded set does not attack, the first one answers from
     * outside the grounded set again, and has no new arguments left at last.
     */
    public boolean wins(int argument) throws IndexOutOfBoundsException {
        checkArgument(argument);
        return has(working.groundedWithin(present), argument);
    }

    public int silence(int argument) throws IndexOutOfBoundsException {
        checkArgument(argument);
        // What attacks itself is never grounded, so the long search would be in vain.
        if (!has(present, argument) || has(working.sourcesOf(argument), argument)) {
            return -1;
        }
        int others = with(present, argument, false);
        int best = -1;
        int fewest = MOST_ARGUMENTS + 1;
        for (int silenced = 0; silenced < ALL_SETS; silenced++) {
            int size = Integer.bitCount(silenced);
            if ((silenced & ~others) == 0 && size < fewest
                    && has(working.groundedWithin(present & ~silenced), argument)) {
                best = silenced;
                fewest = size;
            }
        }
        return best;
    }

    public int tolerable(int argument) throws IndexOutOfBoundsException {
        checkArgument(argument);
        for (int other = GREATEST_TOLERANCE; other >= 0; other--) {
            supposed.build(weights, made, present, other);
            if (has(supposed.groundedWithin(present), argument)) {
                return other;
            }
        }
        return -1;
    }

    public boolean leads(int a, int b) throws IndexOutOfBoundsException {
        checkArgument(a);
        checkArgument(b);
        return has(working.reachedFrom(a, true) | working.reachedFrom(a, false), b);
    }

    public int even() {
        return returning(true);
    }

    public int odd() {
        return returning(false);
    }

    public long digest() {
        long sum = mix(163, count);
        for (int argument = 0; argument < count; argument++) {
            sum = mix(sum, at(weights, argument));
            sum = mix(sum, has(present, argument) ? 1 : 0);
            sum = mix(sum, working.sourcesOf(argument));
        }
        sum = mix(sum, tolerance);
        for (int kind = 0; kind < KINDS; kind++) {
            SetList list = search(kind);
            sum = mix(sum, list.size());
            for (int index = 0; index < list.size(); index++) {
                sum = mix(sum, list.get(index));
            }
        }
        return sum;
    }

    // ---- inner workings

    private void checkArgument(int argument) {
        if (argument < 0 || argument >= count) {
            throw new IndexOutOfBoundsException("there is no such argument");
        }
    }

    private void checkSet(int set) {
        if (set < 0 || set >= 1 << count) {
            throw new IllegalArgumentException("the set contains something that is no argument");
        }
    }

    private static void checkWeight(int weight) {
        if (weight < 1 || weight > GREATEST_WEIGHT) {
            throw new IllegalArgumentException("weight is not 1 to 9");
        }
    }

    private static void checkKind(int kind) {
        if (kind < 0 || kind >= KINDS) {
            throw new IndexOutOfBoundsException("kind is not 0 to 6");
        }
    }

    /** To be called after every change. */
    private void refresh() {
        working.build(weights, made, present, tolerance);
        isSearched = false;
    }

    private SetList search(int kind) {
        if (!isSearched) {
            found.find(working);
            isSearched = true;
        }
        return found.ofKind(kind);
    }

    private int mostQuarrelsome(int set) {
        int worst = 0;
        int most = -1;
        for (int member = 0; member < count; member++) {
            if (has(set, member)) {
                int quarrels = Integer.bitCount(working.sourcesOf(member) & set)
                        + Integer.bitCount(working.targetsOf(member) & set);
                boolean isLighter = at(weights, member) < at(weights, worst);
                if (quarrels > most || quarrels == most && isLighter) {
                    worst = member;
                    most = quarrels;
                }
            }
        }
        return worst;
    }

    private int weightOf(int set) {
        int sum = 0;
        for (int member = 0; member < count; member++) {
            if (has(set, member)) {
                sum += at(weights, member);
            }
        }
        return sum;
    }

    private int returning(boolean isEven) {
        int set = 0;
        for (int argument = 0; argument < count; argument++) {
            set = with(set, argument, has(working.reachedFrom(argument, isEven), argument));
        }
        return set;
    }

    private static long mix(long sum, long number) {
        return sum * 31 + number;
    }

    private static boolean has(int set, int argument) {
        return (set >> argument & 1) == 1;
    }

    private static int with(int set, int argument, boolean isMember) {
        return isMember ? set | 1 << argument : set & ~(1 << argument);
    }

    private static int at(int[] row, int index) {
        return index >= 0 && index < row.length ? row[index] : 0;
    }

    private static void store(int[] row, int index, int number) {
        if (index >= 0 && index < row.length) {
            row[index] = number;
        }
    }

    /** The attacks that work, and what follows from them alone. Its methods take sets in the debate. */
    private static final class Attacks {
        private final int[] sources;
        private final int[] targets;
        private int present;
        private int selfAttackers;

        Attacks() {
            sources = new int[MOST_ARGUMENTS];
            targets = new int[MOST_ARGUMENTS];
            present = 0;
            selfAttackers = 0;
        }

        void build(int[] weights, int[] made, int present, int tolerance) {
            this.present = present;
            selfAttackers = 0;
            for (int argument = 0; argument < MOST_ARGUMENTS; argument++) {
                store(sources, argument, 0);
                store(targets, argument, 0);
            }
            for (int from = 0; from < MOST_ARGUMENTS; from++) {
                for (int to = 0; to < MOST_ARGUMENTS; to++) {
                    boolean isMade = has(at(made, from) & present, to) && has(present, from);
                    if (isMade && at(weights, to) - at(weights, from) <= tolerance) {
                        enter(from, to);
                    }
                }
            }
        }

        private void enter(int from, int to) {
            store(sources, to, at(sources, to) | 1 << from);
            store(targets, from, at(targets, from) | 1 << to);
            if (from == to) {
                selfAttackers |= 1 << to;
            }
        }

        int present() {
            return present;
        }

        int selfAttackers() {
            return selfAttackers;
        }

        int sourcesOf(int argument) {
            return at(sources, argument);
        }

        int targetsOf(int argument) {
            return at(targets, argument);
        }

        int hitBy(int set) {
            int hit = 0;
            for (int member = 0; member < MOST_ARGUMENTS; member++) {
                if (has(set, member)) {
                    hit |= at(targets, member);
                }
            }
            return hit;
        }

        boolean isPeaceful(int set) {
            return (set & hitBy(set)) == 0;
        }

        int guardedBy(int set) {
            return safeIfHit(hitBy(set), present);
        }

        /** The arguments inside that nothing inside attacks but what is hit. */
        int safeIfHit(int hit, int inside) {
            int safe = 0;
            int dangerous = inside & ~hit;
            for (int argument = 0; argument < MOST_ARGUMENTS; argument++) {
                if (has(inside, argument) && (at(sources, argument) & dangerous) == 0) {
                    safe |= 1 << argument;
                }
            }
            return safe;
        }

        /** The largest part of a set that defends all of itself. */
        int guardedPart(int set) {
            int left = set;
            for (int step = 0; step < MOST_ARGUMENTS; step++) {
                left &= guardedBy(left);
            }
            return left;
        }

        /** The grounded set of the debate that has only the arguments inside. */
        int groundedWithin(int inside) {
            int grounded = 0;
            for (int round = 0; round < MOST_ARGUMENTS; round++) {
                int next = safeIfHit(hitBy(grounded), inside);
                if (next == grounded) {
                    return grounded;
                }
                grounded = next;
            }
            return grounded;
        }

        /*
         * A shortest way of either kind comes to no argument twice by the same kind, so it has at most
         * twice as many attacks as there are arguments; each step looks two attacks further.
         */
        int reachedFrom(int argument, boolean isEven) {
            int odd = at(targets, argument);
            int even = 0;
            for (int step = 0; step < MOST_ARGUMENTS; step++) {
                even |= hitBy(odd);
                odd |= hitBy(even);
            }
            return isEven ? even : odd;
        }
    }

    /** A list of sets, with room for all that there are. */
    private static final class SetList {
        private final int[] sets;
        private int size;

        SetList() {
            sets = new int[ALL_SETS];
            size = 0;
        }

        void clear() {
            size = 0;
        }

        void add(int set) {
            if (size < sets.length) {
                store(sets, size, set);
                size++;
            }
        }

        int size() {
            return size;
        }

        int get(int index) {
            return at(sets, index);
        }

        int union() {
            int union = 0;
            for (int index = 0; index < size; index++) {
                union |= at(sets, index);
            }
            return union;
        }

        int commonPart(int all) {
            int common = all;
            for (int index = 0; index < size; index++) {
                common &= at(sets, index);
            }
            return common;
        }
    }

    /** All positions of all kinds, each list in ascending order. */
    private static final class Positions {
        private final SetList complete;
        private final SetList grounded;
        private final SetList preferred;
        private final SetList stable;
        private final SetList stage;
        private final SetList semistable;
        private final SetList ideal;
        private final SetList largestFree;
        /** For each set all that it attacks, and all that attack it. */
        private final int[] hits;
        private final int[] threats;

        Positions() {
            complete = new SetList();
            grounded = new SetList();
            preferred = new SetList();
            stable = new SetList();
            stage = new SetList();
            semistable = new SetList();
            ideal = new SetList();
            largestFree = new SetList();
            hits = new int[ALL_SETS];
            threats = new int[ALL_SETS];
        }

        SetList ofKind(int kind) {
            switch (kind) {
                case COMPLETE:
                    return complete;
                case GROUNDED:
                    return grounded;
                case PREFERRED:
                    return preferred;
                case STABLE:
                    return stable;
                case STAGE:
                    return stage;
                case SEMISTABLE:
                    return semistable;
                case IDEAL:
                default:
                    return ideal;
            }
        }

        void find(Attacks attacks) {
            int present = attacks.present();
            clear();
            judge(attacks, 0);
            for (int newest = 0; newest < MOST_ARGUMENTS; newest++) {
                if (has(present, newest)) {
                    judgeAllWith(attacks, newest);
                }
            }
            grounded.add(attacks.groundedWithin(present));
            keepLargest(complete, preferred);
            // A set that could grow would cover more, so only those that cannot grow are looked at.
            keepWidest(largestFree, stage);
            keepWidest(preferred, semistable);
            ideal.add(attacks.guardedPart(preferred.commonPart(present)));
        }

        private void clear() {
            for (int kind = 0; kind < KINDS; kind++) {
                ofKind(kind).clear();
            }
            largestFree.clear();
        }

        /** Judges the sets whose greatest member is the newest; those of smaller ones were judged before. */
        private void judgeAllWith(Attacks attacks, int newest) {
            for (int rest = 0; rest < 1 << newest; rest++) {
                if ((rest & ~attacks.present()) == 0) {
                    int set = rest | 1 << newest;
                    store(hits, set, at(hits, rest) | attacks.targetsOf(newest));
                    store(threats, set, at(threats, rest) | attacks.sourcesOf(newest));
                    judge(attacks, set);
                }
            }
        }

        private void judge(Attacks attacks, int set) {
            int present = attacks.present();
            int hit = at(hits, set);
            int threat = at(threats, set);
            if ((set & hit) != 0) {
                return;
            }
            if ((threat & ~hit) == 0 && attacks.safeIfHit(hit, present) == set) {
                complete.add(set);
            }
            if ((set | hit) == present) {
                stable.add(set);
            }
            if ((set | hit | threat | attacks.selfAttackers()) == present) {
                largestFree.add(set);
            }
        }

        /** A set that has another as a part is told by a greater number, so it comes later in the list. */
        private static void keepLargest(SetList from, SetList to) {
            for (int index = 0; index < from.size(); index++) {
                int set = from.get(index);
                boolean isLargest = true;
                for (int later = index + 1; later < from.size() && isLargest; later++) {
                    isLargest = (set & ~from.get(later)) != 0;
                }
                if (isLargest) {
                    to.add(set);
                }
            }
        }

        private void keepWidest(SetList from, SetList to) {
            for (int index = 0; index < from.size(); index++) {
                int set = from.get(index);
                boolean isWidest = true;
                for (int other = 0; other < from.size() && isWidest; other++) {
                    isWidest = !isProperPart(covered(set), covered(from.get(other)));
                }
                if (isWidest) {
                    to.add(set);
                }
            }
        }

        private int covered(int set) {
            return set | at(hits, set);
        }

        private static boolean isProperPart(int part, int whole) {
            return part != whole && (part & ~whole) == 0;
        }
    }
}
