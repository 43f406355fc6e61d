import java.util.ArrayList;
import java.util.Arrays;
import java.util.List;

/** What the tests share: they count the answers that are not due, and end with exit code 1 if there was one. */
final class Check {
    private static int wrong = 0;
    private static int checked = 0;

    private Check() {
    }

    static void same(String what, long due, long got) {
        tell(due == got, what + ": answered " + got + ", due is " + due);
    }

    static void same(String what, double due, double got) {
        tell(due == got, what + ": answered " + got + ", due is " + due);
    }

    static void same(String what, List<Integer> due, List<Integer> got) {
        tell(due.equals(got), what + ": answered " + got + ", due is " + due);
    }

    static void same(String what, String due, String got) {
        tell(due.equals(got), what + ": answered " + got + ", due is " + due);
    }

    static void isTrue(String what, boolean got) {
        tell(got, what + ": false, due is true");
    }

    static void isFalse(String what, boolean got) {
        tell(!got, what + ": true, due is false");
    }

    /** The call throws just this exception, and the debate is as it was. */
    static void refuses(String what, Class<? extends RuntimeException> due, DebateSolver solver, Runnable call) {
        long before = solver.digest();
        Class<?> got = thrownBy(call);
        tell(due == got, what + ": threw " + got + ", due is " + due);
        tell(before == solver.digest(), what + ": changed the debate");
    }

    static void noIndex(String what, DebateSolver solver, Runnable call) {
        refuses(what, IndexOutOfBoundsException.class, solver, call);
    }

    static void badValue(String what, DebateSolver solver, Runnable call) {
        refuses(what, IllegalArgumentException.class, solver, call);
    }

    /** The call is taken: it throws nothing. */
    static void takes(String what, Runnable call) {
        tell(thrownBy(call) == null, what + ": threw something, due is an answer");
    }

    /** The class of what a call throws, null if it throws nothing. */
    static Class<?> thrownBy(Runnable call) {
        try {
            call.run();
        } catch (RuntimeException e) {
            return e.getClass();
        }
        return null;
    }

    /** A debate whose arguments have these weights. */
    static DebateSolver debate(int... weights) {
        DebateSolver solver = new DebateSolver();
        for (int weight : weights) {
            solver.addArgument(weight);
        }
        return solver;
    }

    /** A debate whose arguments have the weight 1; the attacks are pairs of numbers. */
    static DebateSolver plain(int count, int... attacks) {
        int[] weights = new int[count];
        Arrays.fill(weights, 1);
        DebateSolver solver = debate(weights);
        attacks(solver, attacks);
        return solver;
    }

    static void attacks(DebateSolver solver, int... attacks) {
        for (int k = 0; k < attacks.length; k += 2) {
            solver.attack(attacks[k], attacks[k + 1], true);
        }
    }

    /** 12 arguments of weight 1, each of which attacks all others, and itself if it is asked for. */
    static DebateSolver quarrel(boolean isWithItself) {
        DebateSolver solver = plain(12);
        for (int from = 0; from < 12; from++) {
            for (int to = 0; to < 12; to++) {
                if (isWithItself || from != to) {
                    solver.attack(from, to, true);
                }
            }
        }
        return solver;
    }

    /** Arguments of weight 1, each of which attacks the next one. */
    static DebateSolver chain(int count) {
        DebateSolver solver = plain(count);
        for (int k = 0; k + 1 < count; k++) {
            solver.attack(k, k + 1, true);
        }
        return solver;
    }

    /** The same, and the last one attacks the first one. */
    static DebateSolver ring(int count) {
        DebateSolver solver = chain(count);
        solver.attack(count - 1, 0, true);
        return solver;
    }

    /** 12 arguments of weight 1 in six pairs, whose two attack each other. */
    static DebateSolver pairs() {
        DebateSolver solver = plain(12);
        for (int k = 0; k < 12; k += 2) {
            attacks(solver, k, k + 1, k + 1, k);
        }
        return solver;
    }

    /** Takes all arguments out of the debate. */
    static DebateSolver emptied(DebateSolver solver) {
        for (int k = 0; k < solver.argumentCount(); k++) {
            solver.put(k, false);
        }
        return solver;
    }

    static List<Integer> list(DebateSolver solver, int kind) {
        List<Integer> list = new ArrayList<>();
        int size = solver.positions(kind);
        for (int index = 0; index < size; index++) {
            list.add(solver.position(kind, index));
        }
        return list;
    }

    static void end(String name) {
        System.out.println(name + ": " + checked + " checks, " + wrong + " wrong");
        System.exit(wrong == 0 ? 0 : 1);
    }

    private static void tell(boolean isRight, String message) {
        checked++;
        if (!isRight) {
            wrong++;
            System.out.println(message);
        }
    }
}
