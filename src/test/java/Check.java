import java.util.ArrayList;
import java.util.Arrays;
import java.util.List;

/** What the tests share: they count the answers that are not due, and end with exit code 1 if there was one. */
final class Check {
    private static int wrong = 0;
    private static int checked = 0;

    private Check() {
    }

    static void same(String what, long due, long got) {
        tell(due == got, what + ": answered " + got + ", due is " + due);
    }

    static void same(String what, double due, double got) {
        tell(due == got, what + ": answered " + got + ", due is " + due);
    }

    static void same(String what, List<Integer> due, List<Integer> got) {
        tell(due.equals(got), what + ": answered " + got + ", due is " + due);
    }

    static void isTrue(String what, boolean got) {
        tell(got, what + ": false, due is true");
    }

    static void isFalse(String what, boolean got) {
        tell(!got, what + ": true, due is false");
    }

    /** The call throws just this exception, and the debate is as it was. */
    static void refuses(String what, Class<? extends RuntimeException> due, DebateSolver solver, Runnable call) {
        long before = solver.digest();
        Class<?> got = null;
        try {
            call.run();
        } catch (RuntimeException e) {
            got = e.getClass();
        }
        tell(due == got, what + ": threw " + got + ", due is " + due);
        tell(before == solver.digest(), what + ": changed the debate");
    }

    static void noIndex(String what, DebateSolver solver, Runnable call) {
        refuses(what, IndexOutOfBoundsException.class, solver, call);
    }

    static void badValue(String what, DebateSolver solver, Runnable call) {
        refuses(what, IllegalArgumentException.class, solver, call);
    }

    /** A debate whose arguments have these weights. */
    static DebateSolver debate(int... weights) {
        DebateSolver solver = new DebateSolver();
        for (int weight : weights) {
            solver.addArgument(weight);
        }
        return solver;
    }

    /** A debate whose arguments have the weight 1; the attacks are pairs of numbers. */
    static DebateSolver plain(int count, int... attacks) {
        int[] weights = new int[count];
        Arrays.fill(weights, 1);
        DebateSolver solver = debate(weights);
        attacks(solver, attacks);
        return solver;
    }

    static void attacks(DebateSolver solver, int... attacks) {
        for (int k = 0; k < attacks.length; k += 2) {
            solver.attack(attacks[k], attacks[k + 1], true);
        }
    }

    static List<Integer> list(DebateSolver solver, int kind) {
        List<Integer> list = new ArrayList<>();
        int size = solver.positions(kind);
        for (int index = 0; index < size; index++) {
            list.add(solver.position(kind, index));
        }
        return list;
    }

    static void end(String name) {
        System.out.println(name + ": " + checked + " checks, " + wrong + " wrong");
        System.exit(wrong == 0 ? 0 : 1);
    }

    private static void tell(boolean isRight, String message) {
        checked++;
        if (!isRight) {
            wrong++;
            System.out.println(message);
        }
    }
}
