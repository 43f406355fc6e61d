/** Promises 1 to 11: a new object, arguments and attacks. */
public final class ArgumentsTest {
    public static void main(String[] args) {
        promise1();
        promise2();
        promise3();
        promise4();
        promise5();
        promise6();
        promise7();
        promise8();
        promise9();
        promise10();
        promise11();
        Check.end("ArgumentsTest");
    }

    private static void promise1() {
        DebateSolver x = new DebateSolver();
        Check.same("new: argumentCount", 0, x.argumentCount());
        Check.same("new: debate", 0, x.debate());
        Check.same("new: attackCount", 0, x.attackCount());
        Check.same("new: rounds", 0, x.rounds());
        Check.same("new: the tolerance", 9, x.setTolerance(9));
        Check.isTrue("new: the empty set is free", x.isFree(0));
        Check.isTrue("new: the empty set is admissible", x.isAdmissible(0));
        for (int kind = 0; kind < 7; kind++) {
            Check.same("new: positions of kind " + kind, 1, x.positions(kind));
            Check.same("new: position of kind " + kind, 0, x.position(kind, 0));
        }
        DebateSolver y = new DebateSolver();
        y.addArgument(1);
        Check.same("objects do not share arguments", 0, x.argumentCount());
    }

    private static void promise2() {
        DebateSolver x = new DebateSolver();
        Check.badValue("addArgument(0)", x, () -> x.addArgument(0));
        Check.badValue("addArgument(10)", x, () -> x.addArgument(10));
        Check.badValue("addArgument(MIN)", x, () -> x.addArgument(Integer.MIN_VALUE));
        Check.badValue("addArgument(MAX)", x, () -> x.addArgument(Integer.MAX_VALUE));
        for (int k = 0; k < 12; k++) {
            Check.same("addArgument", k, x.addArgument(k < 9 ? k + 1 : 1));
        }
        Check.refuses("a 13th argument", IllegalStateException.class, x, () -> x.addArgument(1));
        Check.badValue("a 13th argument of weight 10: the weight is named first", x, () -> x.addArgument(10));
        Check.same("its weight", 9, x.setWeight(8, 9));
        Check.same("the 12 are in the debate", 4095, x.debate());
    }

    private static void promise3() {
        DebateSolver x = Check.debate(3, 5);
        Check.same("setWeight", 3, x.setWeight(0, 9));
        Check.same("setWeight again", 9, x.setWeight(0, 1));
        Check.same("the other one", 5, x.setWeight(1, 5));
        Check.noIndex("setWeight(-1, 4)", x, () -> x.setWeight(-1, 4));
        Check.noIndex("setWeight(2, 4)", x, () -> x.setWeight(2, 4));
        Check.noIndex("setWeight(2, 0): the argument is named first", x, () -> x.setWeight(2, 0));
        Check.badValue("setWeight(1, 0)", x, () -> x.setWeight(1, 0));
        Check.badValue("setWeight(1, 10)", x, () -> x.setWeight(1, 10));

        x.attack(0, 1, true);
        x.setTolerance(2);
        Check.same("a weight of 5 is too great for 1 and tolerance 2", 0, x.attackCount());
        x.setWeight(0, 3);
        Check.same("but not for 3", 1, x.attackCount());
        x.put(0, false);
        Check.same("what is out has a weight too", 3, x.setWeight(0, 7));
    }

    private static void promise4() {
        DebateSolver x = Check.plain(3, 0, 1, 1, 2);
        Check.isTrue("put out: was in", x.put(0, false));
        Check.isFalse("put out again: was out", x.put(0, false));
        Check.same("debate", 6, x.debate());
        Check.same("an attack of what is out does not work", 1, x.attackCount());
        Check.same("nothing attacks 1 any more", 0, x.attackers(1));
        Check.isFalse("put in: was out", x.put(0, true));
        Check.isTrue("put in again: was in", x.put(0, true));
        Check.same("its attack works again", 1, x.attackers(1));
        x.put(2, false);
        Check.same("an attack on what is out does not work", 0, x.attacked(1));
        Check.noIndex("put(-1)", x, () -> x.put(-1, false));
        Check.noIndex("put(3)", x, () -> x.put(3, false));
    }

    private static void promise5() {
        DebateSolver x = Check.plain(2);
        Check.isFalse("a first attack", x.attack(0, 1, true));
        Check.isTrue("again", x.attack(0, 1, true));
        Check.isFalse("the other way", x.attack(1, 0, false));
        Check.isTrue("removed", x.attack(0, 1, false));
        Check.isFalse("removed again", x.attack(0, 1, false));
        Check.isFalse("on itself", x.attack(1, 1, true));
        Check.same("it attacks itself", 2, x.attackers(1));
        x.attack(0, 1, true);
        x.setWeight(1, 9);
        x.setTolerance(0);
        Check.same("just that on itself works", 2, x.attackers(1));
        Check.isTrue("there was one that does not work", x.attack(0, 1, false));
        x.attack(0, 1, true);
        x.put(1, false);
        Check.isTrue("there was one on what is out", x.attack(0, 1, true));
        Check.noIndex("attack(-1, 0)", x, () -> x.attack(-1, 0, true));
        Check.noIndex("attack(2, 0)", x, () -> x.attack(2, 0, true));
        Check.noIndex("attack(0, -1)", x, () -> x.attack(0, -1, true));
        Check.noIndex("attack(0, 2)", x, () -> x.attack(0, 2, true));
        Check.noIndex("attack(0, 2) removed", x, () -> x.attack(0, 2, false));
    }

    private static void promise6() {
        DebateSolver x = Check.debate(1, 3, 9);
        Check.attacks(x, 0, 1, 0, 2, 1, 0, 2, 0);
        Check.same("all work at first", 4, x.attackCount());
        Check.same("setTolerance(2)", 9, x.setTolerance(2));
        Check.same("a difference of 2 is tolerated, 8 is not", 2, x.attacked(0));
        Check.same("setTolerance(1)", 2, x.setTolerance(1));
        Check.same("a difference of 2 is not", 0, x.attacked(0));
        Check.same("the lighter one is attacked all the same", 6, x.attackers(0));
        Check.same("setTolerance(8)", 1, x.setTolerance(8));
        Check.same("a difference of 8 is tolerated", 6, x.attacked(0));
        Check.same("setTolerance(0)", 8, x.setTolerance(0));
        Check.badValue("setTolerance(-1)", x, () -> x.setTolerance(-1));
        Check.badValue("setTolerance(10)", x, () -> x.setTolerance(10));
        Check.same("the tolerance is as it was", 0, x.setTolerance(9));
    }

    private static void promise7() {
        DebateSolver x = Check.plain(3);
        Check.same("argumentCount", 3, x.argumentCount());
        x.put(1, false);
        Check.same("in the debate or not", 3, x.argumentCount());
        x.addArgument(4);
        Check.same("one more", 4, x.argumentCount());
    }

    private static void promise8() {
        DebateSolver x = Check.plain(12);
        Check.same("all 12", 4095, x.debate());
        x.put(0, false);
        x.put(11, false);
        Check.same("without the first and the last", 2046, x.debate());
        x.put(0, true);
        Check.same("the first again", 2047, x.debate());
    }

    private static void promise9() {
        DebateSolver x = Check.plain(4, 0, 1, 2, 1, 3, 1, 1, 0, 1, 1);
        Check.same("attackers(1)", 15, x.attackers(1));
        Check.same("attackers(0)", 2, x.attackers(0));
        Check.same("attackers(2)", 0, x.attackers(2));
        x.put(3, false);
        Check.same("without one that is out", 7, x.attackers(1));
        x.put(1, false);
        Check.same("of what is out", 0, x.attackers(1));
        Check.noIndex("attackers(-1)", x, () -> x.attackers(-1));
        Check.noIndex("attackers(4)", x, () -> x.attackers(4));
    }

    private static void promise10() {
        DebateSolver x = Check.plain(4, 1, 0, 1, 2, 1, 3, 0, 1, 1, 1);
        Check.same("attacked(1)", 15, x.attacked(1));
        Check.same("attacked(0)", 2, x.attacked(0));
        Check.same("attacked(2)", 0, x.attacked(2));
        x.put(3, false);
        Check.same("without one that is out", 7, x.attacked(1));
        x.put(1, false);
        Check.same("by what is out", 0, x.attacked(1));
        Check.noIndex("attacked(-1)", x, () -> x.attacked(-1));
        Check.noIndex("attacked(4)", x, () -> x.attacked(4));
    }

    private static void promise11() {
        DebateSolver x = Check.debate(1, 9, 1);
        Check.attacks(x, 0, 1, 1, 0, 2, 2, 2, 0);
        Check.same("attackCount", 4, x.attackCount());
        x.setTolerance(7);
        Check.same("one is too weak", 3, x.attackCount());
        x.put(2, false);
        Check.same("two are of one that is out", 1, x.attackCount());
        DebateSolver full = new DebateSolver();
        for (int k = 0; k < 12; k++) {
            full.addArgument(1);
            for (int other = 0; other <= k; other++) {
                full.attack(k, other, true);
                full.attack(other, k, true);
            }
        }
        Check.same("all that there can be", 144, full.attackCount());
    }
}
