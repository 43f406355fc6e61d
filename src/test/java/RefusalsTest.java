import java.util.List;
import java.util.function.Consumer;
import java.util.function.ObjIntConsumer;
import java.util.function.Supplier;

/**
 * "A method that throws an exception changes nothing. If several exceptions apply, the one that is named first is
 * thrown." Every sentence of the document that begins with "Throws", in debates of every size: what lies just
 * outside is refused with just this exception and changes nothing, and what lies just inside is taken.
 */
public final class RefusalsTest {
    private static final Class<?> NO_INDEX = IndexOutOfBoundsException.class;
    private static final Class<?> BAD_VALUE = IllegalArgumentException.class;
    private static final Class<?> BAD_STATE = IllegalStateException.class;
    private static final int MIN = Integer.MIN_VALUE;
    private static final int MAX = Integer.MAX_VALUE;
    private static final int[] WRONG_WEIGHTS = {0, 10, -1, -9, 11, MIN, MAX};
    private static final int[] WRONG_TOLERANCES = {-1, 10, -9, 11, MIN, MAX};
    private static final int[] WRONG_KINDS = {-1, 7, -7, 8, MIN, MAX};
    private static final List<Supplier<DebateSolver>> DEBATES = List.of(
            DebateSolver::new, RefusalsTest::single, RefusalsTest::silent, RefusalsTest::mixed,
            RefusalsTest::eleven, RefusalsTest::full, RefusalsTest::fullAndMixed);

    public static void main(String[] args) {
        addArgument();
        setWeight();
        put();
        attack();
        setTolerance();
        noSuchArgument();
        setsWithoutArgument();
        label();
        kinds();
        noSuchPosition();
        whatIsOutIsAnArgument();
        whatNeverThrows();
        Check.end("RefusalsTest");
    }

    private static DebateSolver single() {
        return Check.plain(1);
    }

    /** Nothing is in the debate. */
    private static DebateSolver silent() {
        return Check.emptied(Check.plain(3, 0, 1, 1, 2, 2, 2));
    }

    /** Some attacks are too weak, and an argument is out. */
    private static DebateSolver mixed() {
        DebateSolver solver = Check.debate(1, 9, 4, 4, 2);
        Check.attacks(solver, 0, 1, 1, 0, 1, 2, 2, 3, 3, 2, 4, 4, 0, 3);
        solver.setTolerance(2);
        solver.put(2, false);
        return solver;
    }

    /** Just one more fits. */
    private static DebateSolver eleven() {
        return Check.ring(11);
    }

    private static DebateSolver full() {
        return Check.ring(12);
    }

    private static DebateSolver fullAndMixed() {
        DebateSolver solver = Check.debate(1, 2, 3, 4, 5, 6, 7, 8, 9, 1, 2, 3);
        Check.attacks(solver, 0, 8, 8, 0, 0, 1, 2, 1, 1, 2, 3, 7, 11, 11, 10, 9, 9, 10, 5, 6, 4, 11);
        solver.setTolerance(0);
        solver.put(0, false);
        solver.put(11, false);
        return solver;
    }

    private static int[] wrongArguments(int count) {
        return new int[] {-1, count, count + 1, 12, 13, 31, 32, 33, 64, -32, MIN, MIN + 1, MAX};
    }

    /** What contains something that is no argument, alone or beside all that are. */
    private static int[] wrongSets(int count) {
        int next = 1 << count;
        return new int[] {next, 2 * next - 1, 1 << 12, 1 << 16, 1 << 30, MIN, MIN + next - 1, -next, -1, MAX};
    }

    private static void refused(String what, Class<?> due, Supplier<DebateSolver> debate, Consumer<DebateSolver> call) {
        DebateSolver asked = debate.get();
        String where = what + " among " + asked.argumentCount();
        // The positions are asked for before, so that those which are kept would show a change, too.
        long before = asked.digest();
        Class<?> got = Check.thrownBy(() -> call.accept(asked));
        Check.same(where + " throws", String.valueOf(due), String.valueOf(got));
        Check.same(where + " changes no digest", before, asked.digest());
        Check.same(where + " changes nothing", Answers.whole(debate.get()), Answers.whole(asked));
    }

    private static void refusedAll(String what, Class<?> due, int[] wrong, ObjIntConsumer<DebateSolver> call) {
        for (Supplier<DebateSolver> debate : DEBATES) {
            for (int value : wrong) {
                refused(what + " " + value, due, debate, x -> call.accept(x, value));
            }
        }
    }

    private static void noArgument(String what, ObjIntConsumer<DebateSolver> call) {
        for (Supplier<DebateSolver> debate : DEBATES) {
            int count = debate.get().argumentCount();
            for (int wrong : wrongArguments(count)) {
                refused(what + " " + wrong, NO_INDEX, debate, x -> call.accept(x, wrong));
            }
            for (int right = 0; right < count; right++) {
                DebateSolver x = debate.get();
                int argument = right;
                Check.takes(what + " " + right + " among " + count, () -> call.accept(x, argument));
            }
        }
    }

    /** The same for calls that need a second argument, the last one: there is none without arguments. */
    private static void noArgumentBeside(String what, PairCall call) {
        noArgument("first of " + what, (x, k) -> call.take(x, k, x.argumentCount() > 0 ? x.argumentCount() - 1 : k));
        noArgument("second of " + what, (x, k) -> call.take(x, x.argumentCount() > 0 ? x.argumentCount() - 1 : k, k));
        for (Supplier<DebateSolver> debate : DEBATES) {
            for (int wrong : wrongArguments(debate.get().argumentCount())) {
                refused("both of " + what + " " + wrong, NO_INDEX, debate, x -> call.take(x, wrong, wrong));
            }
        }
    }

    private interface PairCall {
        void take(DebateSolver solver, int a, int b);
    }

    private static void noArgumentInSet(String what, ObjIntConsumer<DebateSolver> call) {
        for (Supplier<DebateSolver> debate : DEBATES) {
            int count = debate.get().argumentCount();
            for (int wrong : wrongSets(count)) {
                refused(what + " " + wrong, BAD_VALUE, debate, x -> call.accept(x, wrong));
            }
            int all = (1 << count) - 1;
            for (int right : new int[] {0, all, all / 2}) {
                DebateSolver x = debate.get();
                Check.takes(what + " " + right + " among " + count, () -> call.accept(x, right));
            }
        }
    }

    /** "Throws IllegalArgumentException if weight is not 1 to 9", "IllegalStateException if there are 12 arguments" */
    private static void addArgument() {
        refusedAll("addArgument", BAD_VALUE, WRONG_WEIGHTS, DebateSolver::addArgument);
        for (int weight = 1; weight <= 9; weight++) {
            int right = weight;
            refused("a 13th argument " + weight, BAD_STATE, RefusalsTest::full, x -> x.addArgument(right));
            refused("a 13th argument " + weight, BAD_STATE, RefusalsTest::fullAndMixed, x -> x.addArgument(right));
            DebateSolver almost = eleven();
            Check.takes("a 12th argument " + weight, () -> almost.addArgument(right));
        }
        // Both apply: the weight is named first.
        for (int wrong : WRONG_WEIGHTS) {
            refused("a 13th argument, too wrong", BAD_VALUE, RefusalsTest::full, x -> x.addArgument(wrong));
        }
        Supplier<DebateSolver> noneIn = () -> Check.emptied(full());
        refused("a 13th argument, and none is in the debate", BAD_STATE, noneIn, x -> x.addArgument(1));
    }

    /** Promise 3: "if there is no such argument", "if weight is not 1 to 9" */
    private static void setWeight() {
        noArgument("setWeight to 1 of", (x, k) -> x.setWeight(k, 1));
        noArgument("setWeight to 9 of", (x, k) -> x.setWeight(k, 9));
        for (Supplier<DebateSolver> debate : DEBATES) {
            int count = debate.get().argumentCount();
            for (int weight : WRONG_WEIGHTS) {
                for (int k = 0; k < count; k++) {
                    int argument = k;
                    refused("setWeight of " + k + " to " + weight, BAD_VALUE, debate,
                            x -> x.setWeight(argument, weight));
                }
                // Both apply: the argument is named first.
                for (int k : wrongArguments(count)) {
                    refused("setWeight of " + k + " to " + weight, NO_INDEX, debate, x -> x.setWeight(k, weight));
                }
            }
        }
    }

    /** Promise 4: "if there is no such argument" */
    private static void put() {
        noArgument("put in", (x, k) -> x.put(k, true));
        noArgument("put out", (x, k) -> x.put(k, false));
    }

    /** Promise 5: "if there is no such argument" */
    private static void attack() {
        noArgumentBeside("attack", (x, a, b) -> x.attack(a, b, true));
        noArgumentBeside("attack removed", (x, a, b) -> x.attack(a, b, false));
    }

    /** Promise 6: "if tolerance is not 0 to 9" */
    private static void setTolerance() {
        refusedAll("setTolerance", BAD_VALUE, WRONG_TOLERANCES, DebateSolver::setTolerance);
        for (Supplier<DebateSolver> debate : DEBATES) {
            for (int tolerance = 0; tolerance <= 9; tolerance++) {
                DebateSolver x = debate.get();
                int right = tolerance;
                Check.takes("setTolerance " + tolerance, () -> x.setTolerance(right));
            }
        }
    }

    /** Promises 9, 10, 21, 22, 24, 25, 26, 27: "if there is no such argument" */
    private static void noSuchArgument() {
        noArgument("attackers", DebateSolver::attackers);
        noArgument("attacked", DebateSolver::attacked);
        noArgument("support", DebateSolver::support);
        noArgument("round", DebateSolver::round);
        noArgument("wins", DebateSolver::wins);
        noArgument("silence", DebateSolver::silence);
        noArgument("tolerable", DebateSolver::tolerable);
        noArgumentBeside("leads", DebateSolver::leads);
    }

    /** Promises 12, 13, 14, 16: "if set contains something that is no argument" */
    private static void setsWithoutArgument() {
        noArgumentInSet("isFree", DebateSolver::isFree);
        noArgumentInSet("defended", DebateSolver::defended);
        noArgumentInSet("isAdmissible", DebateSolver::isAdmissible);
        noArgumentInSet("repair", DebateSolver::repair);
    }

    /** Promise 15: "if there is no such argument", "if set contains something that is no argument" */
    private static void label() {
        noArgument("label in the empty set", (x, k) -> x.label(k, 0));
        noArgument("label in all", (x, k) -> x.label(k, (1 << x.argumentCount()) - 1));
        for (Supplier<DebateSolver> debate : DEBATES) {
            int count = debate.get().argumentCount();
            for (int set : wrongSets(count)) {
                for (int k = 0; k < count; k++) {
                    int argument = k;
                    refused("label of " + k + " in " + set, BAD_VALUE, debate, x -> x.label(argument, set));
                }
                // Both apply: the argument is named first.
                for (int k : wrongArguments(count)) {
                    refused("label of " + k + " in " + set, NO_INDEX, debate, x -> x.label(k, set));
                }
            }
        }
    }

    /** Promises 17 to 20: "if kind is not 0 to 6" */
    private static void kinds() {
        refusedAll("positions", NO_INDEX, WRONG_KINDS, DebateSolver::positions);
        refusedAll("position 0", NO_INDEX, WRONG_KINDS, (x, kind) -> x.position(kind, 0));
        refusedAll("position -1", NO_INDEX, WRONG_KINDS, (x, kind) -> x.position(kind, -1));
        refusedAll("accepted by all", NO_INDEX, WRONG_KINDS, (x, kind) -> x.accepted(kind, true));
        refusedAll("accepted by some", NO_INDEX, WRONG_KINDS, (x, kind) -> x.accepted(kind, false));
        refusedAll("heaviest", NO_INDEX, WRONG_KINDS, DebateSolver::heaviest);
        for (Supplier<DebateSolver> debate : DEBATES) {
            DebateSolver x = debate.get();
            for (int kind = 0; kind <= 6; kind++) {
                int right = kind;
                Check.takes("positions " + kind, () -> x.positions(right));
                Check.takes("accepted by all " + kind, () -> x.accepted(right, true));
                Check.takes("accepted by some " + kind, () -> x.accepted(right, false));
                Check.takes("heaviest " + kind, () -> x.heaviest(right));
            }
        }
    }

    /** Promise 18: "or there is no such position" */
    private static void noSuchPosition() {
        for (Supplier<DebateSolver> debate : DEBATES) {
            for (int kind = 0; kind <= 6; kind++) {
                int right = kind;
                int size = debate.get().positions(kind);
                for (int index : new int[] {-1, size, size + 1, 4095, 4096, MIN, MAX}) {
                    refused("position " + index + " of kind " + kind, NO_INDEX, debate, x -> x.position(right, index));
                }
                DebateSolver x = debate.get();
                for (int k = 0; k < size; k++) {
                    int index = k;
                    Check.takes("position " + index + " of kind " + kind, () -> x.position(right, index));
                }
            }
        }
        DebateSolver loner = Check.plain(1, 0, 0);
        Check.same("there is no stable one", 0, loner.positions(3));
        Check.noIndex("so there is no first one", loner, () -> loner.position(3, 0));
        Check.noIndex("nor one before it", loner, () -> loner.position(3, -1));
        DebateSolver pairs = Check.pairs();
        Check.takes("the 729th complete one", () -> pairs.position(0, 728));
        Check.noIndex("there is no 730th", pairs, () -> pairs.position(0, 729));
    }

    /** What is out of the debate is an argument all the same: no call refuses it. */
    private static void whatIsOutIsAnArgument() {
        DebateSolver x = Check.emptied(full());
        Check.takes("isFree", () -> x.isFree(4095));
        Check.takes("defended", () -> x.defended(4095));
        Check.takes("isAdmissible", () -> x.isAdmissible(4095));
        Check.takes("repair", () -> x.repair(4095));
        for (int k = 0; k < 12; k++) {
            int argument = k;
            Check.takes("label", () -> x.label(argument, 4095));
            Check.takes("setWeight", () -> x.setWeight(argument, 9));
            Check.takes("attack", () -> x.attack(argument, 11 - argument, true));
            Check.takes("silence", () -> x.silence(argument));
        }
    }

    /** Promises 7, 8, 11, 23, 28, 29, 30 throw nothing. */
    private static void whatNeverThrows() {
        for (Supplier<DebateSolver> debate : DEBATES) {
            DebateSolver x = debate.get();
            Check.takes("argumentCount", x::argumentCount);
            Check.takes("debate", x::debate);
            Check.takes("attackCount", x::attackCount);
            Check.takes("rounds", x::rounds);
            Check.takes("even", x::even);
            Check.takes("odd", x::odd);
            Check.takes("digest", x::digest);
            Check.same("questions change nothing", Answers.whole(debate.get()), Answers.whole(x));
        }
    }
}
