/** All that a debate tells, as a text, so that two debates can be compared. */
final class Answers {
    private Answers() {
    }

    /** What a debate answers about its first arguments, and nothing is changed by it. */
    static String about(DebateSolver solver, int arguments) {
        StringBuilder text = new StringBuilder();
        text.append(solver.debate()).append(' ').append(solver.attackCount()).append(' ').append(solver.rounds());
        text.append(' ').append(solver.even()).append(' ').append(solver.odd()).append(" | ");
        for (int k = 0; k < arguments; k++) {
            text.append(solver.attackers(k)).append(' ').append(solver.attacked(k)).append(' ');
            text.append(solver.support(k)).append(' ').append(solver.round(k)).append(' ');
            text.append(solver.wins(k)).append(' ').append(solver.silence(k)).append(' ');
            text.append(solver.tolerable(k)).append(" leads ");
            for (int other = 0; other < arguments; other++) {
                text.append(solver.leads(k, other) ? 1 : 0);
            }
            text.append(" | ");
        }
        for (int kind = 0; kind < 7; kind++) {
            text.append(Check.list(solver, kind)).append(' ').append(solver.heaviest(kind)).append(' ');
            text.append(solver.accepted(kind, true)).append(' ').append(solver.accepted(kind, false)).append(" | ");
        }
        return text.toString();
    }

    /** What a debate answers about some of its sets, each with what is added to it. */
    static String aboutSets(DebateSolver solver, int arguments, int added) {
        StringBuilder text = new StringBuilder();
        int all = (1 << arguments) - 1;
        for (int k = 0; k <= 12; k++) {
            int set = (all * k / 12 | added);
            text.append(solver.isFree(set)).append(' ').append(solver.defended(set)).append(' ');
            text.append(solver.isAdmissible(set)).append(' ').append(solver.repair(set)).append(" labels ");
            for (int argument = 0; argument < arguments; argument++) {
                text.append(solver.label(argument, set));
            }
            text.append(" | ");
        }
        return text.toString();
    }

    /**
     * The whole state: the numbers, the weights, the tolerance, what is in, all attacks, working or not, and
     * whether there is more to come with arguments that are still to be added. It uses the debate up, as what is
     * hidden shows only as it is changed.
     */
    static String whole(DebateSolver solver) {
        StringBuilder text = new StringBuilder();
        text.append(solver.argumentCount()).append(' ').append(solver.debate()).append(' ').append(solver.digest());
        text.append(' ').append(solver.attackCount()).append(' ').append(solver.setTolerance(9));
        text.append(" filled up");
        int[] number = {-1};
        while (Check.thrownBy(() -> number[0] = solver.addArgument(1)) == null && number[0] < 12) {
            text.append(' ').append(number[0]);
        }
        int count = solver.argumentCount();
        text.append(' ').append(count).append(' ').append(solver.debate());
        text.append(' ').append(solver.digest()).append(' ').append(solver.attackCount()).append(" hidden");
        for (int k = 0; k < count; k++) {
            text.append(' ').append(solver.put(k, true)).append(' ').append(solver.setWeight(k, 1)).append(' ');
            for (int to = 0; to < count; to++) {
                text.append(solver.attack(k, to, false) ? 1 : 0);
            }
        }
        return text.toString();
    }
}
