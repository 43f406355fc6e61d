import java.util.ArrayList;
import java.util.HashMap;
import java.util.List;
import java.util.Map;

/**
 * The document's definitions, word for word and without any short cut, to compare with: slow, and fit for
 * small debates. It shares no idea with the program but that sets are told by numbers.
 */
final class Oracle {
    final List<Integer> weights = new ArrayList<>();
    final boolean[] isIn = new boolean[12];
    final boolean[][] isMade = new boolean[12][12];
    int tolerance = 9;

    Oracle copy() {
        Oracle copy = new Oracle();
        copy.weights.addAll(weights);
        copy.tolerance = tolerance;
        for (int k = 0; k < 12; k++) {
            copy.isIn[k] = isIn[k];
            System.arraycopy(isMade[k], 0, copy.isMade[k], 0, 12);
        }
        return copy;
    }

    /** A new object of the program in the same state. */
    DebateSolver rebuilt() {
        DebateSolver solver = new DebateSolver();
        for (int weight : weights) {
            solver.addArgument(weight);
        }
        for (int from = 0; from < count(); from++) {
            solver.put(from, isIn[from]);
            for (int to = 0; to < count(); to++) {
                if (isMade[from][to]) {
                    solver.attack(from, to, true);
                }
            }
        }
        solver.setTolerance(tolerance);
        return solver;
    }

    int count() {
        return weights.size();
    }

    int debate() {
        int set = 0;
        for (int k = 0; k < count(); k++) {
            set += isIn[k] ? 1 << k : 0;
        }
        return set;
    }

    static boolean has(int set, int k) {
        return (set & 1 << k) != 0;
    }

    static boolean isPart(int part, int whole) {
        return (part & whole) == part;
    }

    static boolean isProperPart(int part, int whole) {
        return part != whole && isPart(part, whole);
    }

    boolean attacks(int a, int b) {
        return isMade[a][b] && isIn[a] && isIn[b] && weights.get(b) <= weights.get(a) + tolerance;
    }

    int attackers(int argument) {
        int set = 0;
        for (int k = 0; k < count(); k++) {
            set += attacks(k, argument) ? 1 << k : 0;
        }
        return set;
    }

    int attacked(int argument) {
        int set = 0;
        for (int k = 0; k < count(); k++) {
            set += attacks(argument, k) ? 1 << k : 0;
        }
        return set;
    }

    int attackCount() {
        int sum = 0;
        for (int a = 0; a < count(); a++) {
            for (int b = 0; b < count(); b++) {
                sum += attacks(a, b) ? 1 : 0;
            }
        }
        return sum;
    }

    boolean isHit(int argument, int set) {
        for (int k = 0; k < count(); k++) {
            if (has(set, k) && attacks(k, argument)) {
                return true;
            }
        }
        return false;
    }

    boolean isFree(int set) {
        for (int k = 0; k < count(); k++) {
            if (has(set, k) && isHit(k, set)) {
                return false;
            }
        }
        return true;
    }

    boolean defends(int set, int argument) {
        for (int k = 0; k < count(); k++) {
            if (attacks(k, argument) && !isHit(k, set)) {
                return false;
            }
        }
        return true;
    }

    int defended(int set) {
        int all = 0;
        for (int k = 0; k < count(); k++) {
            all += isIn[k] && defends(set, k) ? 1 << k : 0;
        }
        return all;
    }

    boolean isAdmissible(int set) {
        return isFree(set) && isPart(set & debate(), defended(set));
    }

    int label(int argument, int set) {
        if (!isIn[argument]) {
            return 0;
        }
        return (has(set, argument) ? 1 : 0) + (isHit(argument, set) ? 2 : 0);
    }

    int repair(int set) {
        int left = set & debate();
        while (!isFree(left)) {
            int chosen = -1;
            int most = -1;
            for (int k = 0; k < count(); k++) {
                if (has(left, k)) {
                    int quarrels = 0;
                    for (int other = 0; other < count(); other++) {
                        quarrels += has(left, other) && attacks(k, other) ? 1 : 0;
                        quarrels += has(left, other) && attacks(other, k) ? 1 : 0;
                    }
                    if (chosen < 0 || quarrels > most
                            || quarrels == most && weights.get(k) < weights.get(chosen)) {
                        chosen = k;
                        most = quarrels;
                    }
                }
            }
            left -= 1 << chosen;
        }
        while (!isPart(left, defended(left))) {
            left &= defended(left);
        }
        return left;
    }

    int covered(int set) {
        int all = set;
        for (int k = 0; k < count(); k++) {
            all |= isHit(k, set) ? 1 << k : 0;
        }
        return all;
    }

    List<Integer> allFree() {
        List<Integer> list = new ArrayList<>();
        for (int set = 0; set < 1 << count(); set++) {
            if (isPart(set, debate()) && isFree(set)) {
                list.add(set);
            }
        }
        return list;
    }

    List<Integer> allAdmissible() {
        List<Integer> list = new ArrayList<>();
        for (int set : allFree()) {
            if (isAdmissible(set)) {
                list.add(set);
            }
        }
        return list;
    }

    List<List<Integer>> allPositions() {
        List<Integer> free = allFree();
        List<Integer> admissible = allAdmissible();
        List<List<Integer>> all = new ArrayList<>();
        List<Integer> complete = new ArrayList<>();
        for (int set : admissible) {
            if (isPart(defended(set), set)) {
                complete.add(set);
            }
        }
        List<Integer> preferred = largest(admissible);
        List<Integer> sharedByPreferred = new ArrayList<>();
        for (int set : admissible) {
            if (isPartOfAll(set, preferred)) {
                sharedByPreferred.add(set);
            }
        }
        all.add(complete);
        all.add(partOfAllIn(complete));
        all.add(preferred);
        all.add(stable(free));
        all.add(widest(free));
        all.add(widest(admissible));
        all.add(containingAllIn(sharedByPreferred));
        return all;
    }

    private List<Integer> stable(List<Integer> free) {
        List<Integer> list = new ArrayList<>();
        for (int set : free) {
            if (covered(set) == debate()) {
                list.add(set);
            }
        }
        return list;
    }

    private static List<Integer> largest(List<Integer> sets) {
        List<Integer> list = new ArrayList<>();
        for (int set : sets) {
            boolean isLargest = true;
            for (int other : sets) {
                isLargest &= !isProperPart(set, other);
            }
            if (isLargest) {
                list.add(set);
            }
        }
        return list;
    }

    private List<Integer> widest(List<Integer> sets) {
        int[] covered = new int[1 << count()];
        for (int set : sets) {
            covered[set] = covered(set);
        }
        List<Integer> list = new ArrayList<>();
        for (int set : sets) {
            boolean isWidest = true;
            for (int other : sets) {
                isWidest &= !isProperPart(covered[set], covered[other]);
            }
            if (isWidest) {
                list.add(set);
            }
        }
        return list;
    }

    private static boolean isPartOfAll(int set, List<Integer> sets) {
        for (int other : sets) {
            if (!isPart(set, other)) {
                return false;
            }
        }
        return true;
    }

    private static List<Integer> partOfAllIn(List<Integer> sets) {
        List<Integer> list = new ArrayList<>();
        for (int set : sets) {
            if (isPartOfAll(set, sets)) {
                list.add(set);
            }
        }
        return list;
    }

    private static List<Integer> containingAllIn(List<Integer> sets) {
        List<Integer> list = new ArrayList<>();
        for (int set : sets) {
            boolean hasAll = true;
            for (int other : sets) {
                hasAll &= isPart(other, set);
            }
            if (hasAll) {
                list.add(set);
            }
        }
        return list;
    }

    int accepted(List<Integer> positions, boolean isAll) {
        int accepted = 0;
        for (int k = 0; k < count(); k++) {
            int having = 0;
            for (int set : positions) {
                having += has(set, k) ? 1 : 0;
            }
            boolean isAccepted = isAll ? having == positions.size() : having > 0;
            accepted += isIn[k] && isAccepted ? 1 << k : 0;
        }
        return accepted;
    }

    int heaviest(List<Integer> positions) {
        int best = -1;
        for (int set : positions) {
            if (best < 0 || weight(set) > weight(best) || weight(set) == weight(best) && set < best) {
                best = set;
            }
        }
        return best;
    }

    private int weight(int set) {
        int sum = 0;
        for (int k = 0; k < count(); k++) {
            sum += has(set, k) ? weights.get(k) : 0;
        }
        return sum;
    }

    /** The rounds, each the set of the arguments that come in it. */
    List<Integer> allRounds() {
        List<Integer> list = new ArrayList<>();
        int before = 0;
        int next = 0;
        for (int k = 0; k < count(); k++) {
            next += isIn[k] && attackers(k) == 0 ? 1 << k : 0;
        }
        while (next != 0) {
            list.add(next);
            before |= next;
            next = defended(before) & ~before;
        }
        return list;
    }

    int round(int argument) {
        List<Integer> list = allRounds();
        for (int k = 0; k < list.size(); k++) {
            if (has(list.get(k), argument)) {
                return k + 1;
            }
        }
        return 0;
    }

    boolean isGrounded(int argument) {
        return round(argument) > 0;
    }

    boolean wins(int argument) {
        return isIn[argument] && firstWins(argument, 1 << argument, new HashMap<>());
    }

    /** Whether the first player wins who has moved last; all that either one has moved with is used. */
    private boolean firstWins(int last, int used, Map<Integer, Boolean> known) {
        int key = used * 16 + last;
        Boolean before = known.get(key);
        if (before != null) {
            return before;
        }
        boolean isWon = true;
        for (int reply = 0; reply < count() && isWon; reply++) {
            if (attacks(reply, last)) {
                isWon = firstAnswers(reply, used | 1 << reply, known);
            }
        }
        known.put(key, isWon);
        return isWon;
    }

    private boolean firstAnswers(int last, int used, Map<Integer, Boolean> known) {
        for (int answer = 0; answer < count(); answer++) {
            if (attacks(answer, last) && !has(used, answer) && firstWins(answer, used | 1 << answer, known)) {
                return true;
            }
        }
        return false;
    }

    int silence(int argument) {
        int best = -1;
        for (int set = 0; set < 1 << count(); set++) {
            boolean isAllowed = isPart(set, debate()) && !has(set, argument);
            if (isAllowed && (best < 0 || Integer.bitCount(set) < Integer.bitCount(best))) {
                Oracle smaller = copy();
                for (int k = 0; k < count(); k++) {
                    smaller.isIn[k] &= !has(set, k);
                }
                best = smaller.isGrounded(argument) ? set : best;
            }
        }
        return best;
    }

    int tolerable(int argument) {
        int best = -1;
        for (int t = 0; t <= 9; t++) {
            Oracle other = copy();
            other.tolerance = t;
            best = other.isGrounded(argument) ? t : best;
        }
        return best;
    }

    /** Whether there is a way of so many attacks, for each number of them up to a bound that is never short. */
    boolean leads(int a, int b, boolean mayBeEven, boolean mayBeOdd) {
        int here = 1 << a;
        for (int length = 1; length <= 60; length++) {
            int next = 0;
            for (int k = 0; k < count(); k++) {
                next |= has(here, k) ? attacked(k) : 0;
            }
            here = next;
            if (has(here, b) && (length % 2 == 0 ? mayBeEven : mayBeOdd)) {
                return true;
            }
        }
        return false;
    }

    int returning(boolean isEven) {
        int set = 0;
        for (int k = 0; k < count(); k++) {
            set += leads(k, k, isEven, !isEven) ? 1 << k : 0;
        }
        return set;
    }

    long digest() {
        List<Long> numbers = new ArrayList<>();
        numbers.add((long) count());
        for (int k = 0; k < count(); k++) {
            numbers.add((long) weights.get(k));
            numbers.add(isIn[k] ? 1L : 0L);
            numbers.add((long) attackers(k));
        }
        numbers.add((long) tolerance);
        for (List<Integer> positions : allPositions()) {
            numbers.add((long) positions.size());
            for (int set : positions) {
                numbers.add((long) set);
            }
        }
        long d = 163;
        for (long number : numbers) {
            d = d * 31 + number;
        }
        return d;
    }
}
