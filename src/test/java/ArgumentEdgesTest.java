/** The edges that the document names for arguments and attacks: "Arguments." and promises 1 to 11. */
public final class ArgumentEdgesTest {
    public static void main(String[] args) {
        aNewObject();
        atMostTwelve();
        numberedFromZero();
        toldAsSumsOfPowers();
        weightsOneToNine();
        inAtFirst();
        whatIsOutIsAsIfItWereNotThere();
        attacksOnItself();
        bothInTheDebate();
        notGreaterByMoreThanTheTolerance();
        tolerances();
        nineAtFirst();
        theWeightBefore();
        whetherItWasInBefore();
        whetherThereWasAnAttackBefore();
        allArgumentsCount();
        theSetInTheDebate();
        attackersFromNoneToAll();
        attackedFromNoneToAll();
        attackCountFromNoneToAll();
        Check.end("ArgumentEdgesTest");
    }

    /** "Creates a debate without arguments." */
    private static void aNewObject() {
        DebateSolver x = new DebateSolver();
        Check.same("new: no argument", 0, x.argumentCount());
        Check.same("new: all answers", "0 0 0 0 0 | [0] 0 0 0 | [0] 0 0 0 | [0] 0 0 0 | [0] 0 0 0 | [0] 0 0 0 | "
                + "[0] 0 0 0 | [0] 0 0 0 | ", Answers.about(x, 0));
        Check.same("new: the first argument is still to come", 0, x.addArgument(1));
    }

    /** "There are at most 12": none more, not for any weight, nor when all are out of the debate. */
    private static void atMostTwelve() {
        DebateSolver x = new DebateSolver();
        for (int k = 0; k < 12; k++) {
            Check.same("as many fit", k, x.argumentCount());
            x.addArgument(1);
        }
        Check.refuses("13th", IllegalStateException.class, x, () -> x.addArgument(1));
        Check.refuses("13th of weight 9", IllegalStateException.class, x, () -> x.addArgument(9));
        Check.emptied(x);
        Check.refuses("13th, all are out", IllegalStateException.class, x, () -> x.addArgument(1));
        Check.same("there are 12", 12, x.argumentCount());
    }

    /** "numbered from 0 in the order of their creation": also when others have gone out. */
    private static void numberedFromZero() {
        DebateSolver x = new DebateSolver();
        for (int k = 0; k < 12; k++) {
            Check.same("its number", k, x.addArgument(9 - k % 9));
            x.put(k, k % 2 == 0);
        }
        for (int k = 0; k < 12; k++) {
            Check.same("its weight tells which one it is", 9 - k % 9, x.setWeight(k, 1));
        }
    }

    /** "sets of arguments are told as the sum of the powers 2^k of their numbers k" */
    private static void toldAsSumsOfPowers() {
        DebateSolver x = Check.emptied(Check.plain(12, 11, 0, 0, 11));
        int power = 1;
        for (int k = 0; k < 12; k++) {
            x.put(k, true);
            Check.same("just " + k, power, x.debate());
            x.put(k, false);
            power *= 2;
        }
        x.put(0, true);
        x.put(11, true);
        Check.same("the first and the last", 2049, x.debate());
        Check.same("the last attacks the first", 2048, x.attackers(0));
        Check.same("the first attacks the last", 1, x.attackers(11));
    }

    /** "An argument has a weight, 1 to 9" */
    private static void weightsOneToNine() {
        for (int weight = 1; weight <= 9; weight++) {
            DebateSolver x = new DebateSolver();
            Check.same("added", 0, x.addArgument(weight));
            Check.same("weight added", weight, x.setWeight(0, 10 - weight));
            Check.same("weight set", 10 - weight, x.setWeight(0, 1));
        }
        DebateSolver x = Check.debate(4);
        for (int wrong : new int[] {0, 10, -1, Integer.MIN_VALUE, Integer.MAX_VALUE}) {
            Check.badValue("added with " + wrong, x, () -> x.addArgument(wrong));
            Check.badValue("set to " + wrong, x, () -> x.setWeight(0, wrong));
        }
        Check.same("the weight is as it was", 4, x.setWeight(0, 4));
        Check.same("none was added", 1, x.argumentCount());
    }

    /** "in or out of the debate (in, at first)": the first one, the last one, and where nothing else is in. */
    private static void inAtFirst() {
        DebateSolver x = new DebateSolver();
        for (int k = 0; k < 12; k++) {
            x.addArgument(1);
            Check.same("just the new one", 1 << k, x.debate());
            Check.isTrue("it was in", x.put(k, false));
        }
    }

    /** "what is out is as if it were not there": 12 of which the last ones are out answer as fewer do. */
    private static void whatIsOutIsAsIfItWereNotThere() {
        for (int size = 0; size <= 11; size++) {
            DebateSolver x = tangle(12);
            for (int k = size; k < 12; k++) {
                x.put(k, false);
            }
            Check.same(size + " of 12 are in", Answers.about(tangle(size), size), Answers.about(x, size));
            for (int k = size; k < 12; k++) {
                Check.same("out: attackers", 0, x.attackers(k));
                Check.same("out: attacked", 0, x.attacked(k));
                Check.same("out: round", 0, x.round(k));
            }
        }
    }

    /** Each one attacks its neighbours in a way that differs from place to place. */
    private static DebateSolver tangle(int size) {
        DebateSolver x = new DebateSolver();
        for (int k = 0; k < size; k++) {
            x.addArgument(1 + k * 5 % 9);
        }
        for (int k = 0; k < size; k++) {
            for (int step = 1; step <= 3; step++) {
                int to = k + (step == 2 ? -step : step);
                if (to >= 0 && to < size && (k + step) % 3 != 0) {
                    x.attack(k, to, true);
                }
            }
        }
        x.setTolerance(4);
        return x;
    }

    /** "each from an argument to an argument (perhaps the same one)" */
    private static void attacksOnItself() {
        DebateSolver x = Check.debate(9, 1);
        x.setTolerance(0);
        Check.isFalse("there was none", x.attack(0, 0, true));
        Check.same("it is its own attacker", 1, x.attackers(0));
        Check.same("and attacks itself", 1, x.attacked(0));
        Check.same("the other one is not attacked", 0, x.attackers(1));
        Check.isTrue("there was one", x.attack(0, 0, false));
        Check.same("it is gone", 0, x.attackCount());
    }

    /** "An attack works if both arguments are in the debate" */
    private static void bothInTheDebate() {
        DebateSolver x = Check.plain(12, 0, 11, 5, 5);
        Check.same("both in", 2, x.attackCount());
        x.put(0, false);
        Check.same("the attacker is out", 0, x.attackers(11));
        x.put(11, false);
        Check.same("both are out", 0, x.attackers(11));
        x.put(0, true);
        Check.same("the attacked one is out", 0, x.attackers(11));
        Check.same("told from the other side", 0, x.attacked(0));
        x.put(11, true);
        Check.same("both in again", 1, x.attackers(11));
        x.put(5, false);
        Check.same("what attacks itself is out", 1, x.attackCount());
    }

    /** "the weight of the attacked one is not greater than that of the attacker by more than the tolerance" */
    private static void notGreaterByMoreThanTheTolerance() {
        DebateSolver x = Check.debate(1, 2, 3, 4, 5, 6, 7, 8, 9);
        for (int from = 0; from < 9; from++) {
            for (int to = 0; to < 9; to++) {
                x.attack(from, to, true);
            }
        }
        int[] due = {45, 53, 60, 66, 71, 75, 78, 80, 81, 81};
        for (int tolerance = 0; tolerance <= 9; tolerance++) {
            x.setTolerance(tolerance);
            Check.same("of 81 attacks at " + tolerance, due[tolerance], x.attackCount());
            for (int from = 0; from < 9; from++) {
                int greatest = Math.min(8, from + tolerance);
                Check.same(from + " attacks at " + tolerance, (1 << greatest + 1) - 1, x.attacked(from));
                int least = Math.max(0, from - tolerance);
                Check.same(from + " is attacked at " + tolerance, 511 - ((1 << least) - 1), x.attackers(from));
            }
        }
    }

    /** "the tolerance, 0 to 9": each is taken and told as the one before; what lies outside is refused. */
    private static void tolerances() {
        DebateSolver x = new DebateSolver();
        int before = 9;
        for (int tolerance = 0; tolerance <= 9; tolerance++) {
            Check.same("the tolerance before", before, x.setTolerance(tolerance));
            before = tolerance;
        }
        for (int wrong : new int[] {-1, 10, Integer.MIN_VALUE, Integer.MAX_VALUE}) {
            Check.badValue("tolerance " + wrong, x, () -> x.setTolerance(wrong));
        }
        Check.same("the last one stays", 9, x.setTolerance(0));
    }

    /** "the tolerance .. (9 at first)": the lightest can attack the heaviest. */
    private static void nineAtFirst() {
        DebateSolver x = Check.debate(1, 9);
        x.attack(0, 1, true);
        Check.same("1 on 9 works", 1, x.attackCount());
        Check.same("the first tolerance", 9, x.setTolerance(8));
        Check.same("1 on 9 works at 8", 1, x.attackCount());
        x.setTolerance(7);
        Check.same("but not at 7", 0, x.attackCount());
        x.setWeight(0, 2);
        Check.same("2 on 9 works at 7", 1, x.attackCount());
    }

    /** "Returns the weight before.": of the first and the last one, in the debate or not. */
    private static void theWeightBefore() {
        DebateSolver x = Check.debate(1, 2, 3, 4, 5, 6, 7, 8, 9, 1, 2, 9);
        Check.same("the first", 1, x.setWeight(0, 9));
        Check.same("the last", 9, x.setWeight(11, 1));
        Check.emptied(x);
        Check.same("the first, out", 9, x.setWeight(0, 9));
        Check.same("the same again", 9, x.setWeight(0, 1));
        Check.same("the last, out", 1, x.setWeight(11, 9));
        Check.same("the last again", 9, x.setWeight(11, 9));
        Check.same("it is still out", 0, x.debate());
    }

    /** "Returns whether it was before.": also if nothing changes. */
    private static void whetherItWasInBefore() {
        DebateSolver x = Check.plain(12);
        for (int k = 0; k < 12; k++) {
            Check.isTrue("in and stays", x.put(k, true));
            Check.isTrue("in and goes", x.put(k, false));
            Check.isFalse("out and stays", x.put(k, false));
        }
        Check.same("nothing is in", 0, x.debate());
        for (int k = 11; k >= 0; k--) {
            Check.isFalse("out and comes", x.put(k, true));
        }
        Check.same("all are in", 4095, x.debate());
    }

    /** "Returns whether there was one before, working or not.": all 144 that there can be. */
    private static void whetherThereWasAnAttackBefore() {
        DebateSolver x = Check.plain(12);
        for (int k = 0; k < 144; k++) {
            Check.isFalse("there was none", x.attack(k / 12, k % 12, true));
        }
        Check.same("all work", 144, x.attackCount());
        for (int k = 0; k < 144; k++) {
            Check.isTrue("there was one", x.attack(k / 12, k % 12, false));
            Check.isFalse("there is none any more", x.attack(k / 12, k % 12, false));
        }
        DebateSolver weak = Check.debate(1, 9);
        weak.setTolerance(0);
        Check.isFalse("none", weak.attack(0, 1, true));
        Check.same("it is too weak", 0, weak.attackCount());
        Check.isTrue("one that is too weak", weak.attack(0, 1, true));
        Check.emptied(weak);
        Check.isTrue("one of what is out", weak.attack(0, 1, false));
        Check.isFalse("removed while it did not work", weak.attack(0, 1, false));
    }

    /** "Returns the number of arguments, in the debate or not." */
    private static void allArgumentsCount() {
        Check.same("none", 0, new DebateSolver().argumentCount());
        Check.same("one", 1, Check.plain(1).argumentCount());
        Check.same("12", 12, Check.plain(12).argumentCount());
        Check.same("12, all out", 12, Check.emptied(Check.plain(12)).argumentCount());
    }

    /** "Returns the set of the arguments in the debate." */
    private static void theSetInTheDebate() {
        Check.same("no arguments", 0, new DebateSolver().debate());
        Check.same("nothing in the debate", 0, Check.emptied(Check.plain(12)).debate());
        Check.same("all in the debate", 4095, Check.plain(12).debate());
    }

    /** Promise 9: the set of those that attack it, from none to all, of the first and the last one. */
    private static void attackersFromNoneToAll() {
        DebateSolver calm = Check.plain(12);
        DebateSolver all = Check.quarrel(true);
        for (int k = 0; k < 12; k++) {
            Check.same("none", 0, calm.attackers(k));
            Check.same("all", 4095, all.attackers(k));
        }
        Check.emptied(all);
        Check.same("nothing in the debate", 0, all.attackers(0));
        all.put(11, true);
        Check.same("just itself", 2048, all.attackers(11));
        Check.same("what is out is not attacked", 0, all.attackers(0));
    }

    /** Promise 10: the set of those that it attacks, from none to all, of the first and the last one. */
    private static void attackedFromNoneToAll() {
        DebateSolver calm = Check.plain(12);
        DebateSolver all = Check.quarrel(true);
        for (int k = 0; k < 12; k++) {
            Check.same("none", 0, calm.attacked(k));
            Check.same("all", 4095, all.attacked(k));
        }
        Check.emptied(all);
        Check.same("nothing in the debate", 0, all.attacked(0));
        all.put(11, true);
        Check.same("just itself", 2048, all.attacked(11));
        Check.same("what is out attacks nothing", 0, all.attacked(0));
    }

    /** "Returns the number of attacks that work.": from none to all. */
    private static void attackCountFromNoneToAll() {
        Check.same("no arguments", 0, new DebateSolver().attackCount());
        Check.same("no attacks", 0, Check.plain(12).attackCount());
        Check.same("all but those on itself", 132, Check.quarrel(false).attackCount());
        DebateSolver all = Check.quarrel(true);
        Check.same("all", 144, all.attackCount());
        all.put(0, false);
        Check.same("of eleven", 121, all.attackCount());
        Check.same("nothing in the debate", 0, Check.emptied(all).attackCount());
    }
}
