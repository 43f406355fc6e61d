/** "An object is used for at most 512 calls after it has been made": all of them are answered rightly. */
public final class LimitTest {
    private static final int CALLS = 512;

    private final boolean[][] isMade = new boolean[12][12];
    private final DebateSolver solver = new DebateSolver();
    private int calls = 0;

    public static void main(String[] args) {
        new LimitTest().changesAndQuestions();
        refusedCalls();
        theSameQuestion();
        Check.end("LimitTest");
    }

    /** A change and the dearest question in turn, in a debate of 12, up to the last call. */
    private void changesAndQuestions() {
        for (int k = 0; k < 12; k++) {
            Check.same("addArgument", k, solver.addArgument(1));
            calls++;
        }
        for (int step = 0; calls + 2 <= CALLS; step++) {
            int from = step * 5 % 12;
            int to = step * 7 % 11;
            Check.isTrue("attack at call " + calls, solver.attack(from, to, step % 5 > 0) == isMade[from][to]);
            isMade[from][to] = step % 5 > 0;
            Check.same("digest at call " + calls, rebuilt().digest(), solver.digest());
            calls += 2;
        }
        Check.same("calls that were made", CALLS, calls);
    }

    private DebateSolver rebuilt() {
        DebateSolver fresh = Check.plain(12);
        for (int from = 0; from < 12; from++) {
            for (int to = 0; to < 12; to++) {
                if (isMade[from][to]) {
                    fresh.attack(from, to, true);
                }
            }
        }
        return fresh;
    }

    /** 12 arguments, then 499 that are refused, then the last call. */
    private static void refusedCalls() {
        DebateSolver x = new DebateSolver();
        for (int call = 1; call < CALLS; call++) {
            Class<?> thrown = Check.thrownBy(() -> x.addArgument(1));
            Check.isTrue("addArgument at call " + call, thrown == (call <= 12 ? null : IllegalStateException.class));
        }
        Check.same("the last call", 4095, x.debate());
    }

    /** Each question that looks at many sets, asked again and again. */
    private static void theSameQuestion() {
        DebateSolver silence = Check.quarrel(false);
        DebateSolver tolerable = Check.quarrel(false);
        DebateSolver odd = Check.quarrel(false);
        for (int call = 12 + 132 + 1; call <= CALLS; call++) {
            int argument = call % 12;
            Check.same("silence at call " + call, 4095 - (1 << argument), silence.silence(argument));
            Check.same("tolerable at call " + call, -1, tolerable.tolerable(argument));
            Check.same("odd at call " + call, 4095, odd.odd());
        }
    }
}
