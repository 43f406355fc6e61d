/** Promises 12 to 16: sets of arguments. */
public final class SetsTest {
    public static void main(String[] args) {
        promise12();
        promise13();
        promise14();
        promise15();
        promise16();
        promise16Ties();
        Check.end("SetsTest");
    }

    /** 0 attacks 1, which attacks 2, which attacks 3; 4 attacks itself. */
    private static DebateSolver chain() {
        return Check.plain(5, 0, 1, 1, 2, 2, 3, 4, 4);
    }

    private static void promise12() {
        DebateSolver x = chain();
        Check.isTrue("the empty set", x.isFree(0));
        Check.isTrue("0 and 2", x.isFree(5));
        Check.isTrue("0 and 3", x.isFree(9));
        Check.isFalse("0 and 1", x.isFree(3));
        Check.isFalse("0, 2 and 3", x.isFree(13));
        Check.isFalse("4 attacks itself", x.isFree(16));
        x.put(4, false);
        Check.isTrue("4 is left aside", x.isFree(16));
        Check.isTrue("0 and 2, 4 is left aside", x.isFree(21));
        x.setWeight(1, 9);
        x.setTolerance(0);
        Check.isTrue("0 is too weak for 1", x.isFree(3));
        Check.badValue("a 6th argument", x, () -> x.isFree(32));
        Check.badValue("a negative set", x, () -> x.isFree(-1));
        Check.badValue("the least number", x, () -> x.isFree(Integer.MIN_VALUE));
        DebateSolver full = Check.plain(12);
        Check.isTrue("12 arguments", full.isFree(4095));
        Check.badValue("a 13th argument", full, () -> full.isFree(4096));
    }

    private static void promise13() {
        DebateSolver x = chain();
        Check.same("by the empty set", 1, x.defended(0));
        Check.same("by 0", 5, x.defended(1));
        Check.same("by 1", 9, x.defended(2));
        Check.same("by 0 and 2", 5, x.defended(5));
        Check.same("4 defends itself", 17, x.defended(16));
        Check.same("a set in conflict", 13, x.defended(3));
        x.put(0, false);
        Check.same("what is out defends nothing, and is not defended", 2, x.defended(1));
        Check.same("1 defends itself then, and 3", 10, x.defended(2));
        Check.badValue("a 6th argument", x, () -> x.defended(33));
        Check.badValue("a negative set", x, () -> x.defended(-32));
    }

    private static void promise14() {
        DebateSolver x = chain();
        Check.isTrue("the empty set", x.isAdmissible(0));
        Check.isTrue("0", x.isAdmissible(1));
        Check.isTrue("0 and 2", x.isAdmissible(5));
        Check.isFalse("2 alone is not defended", x.isAdmissible(4));
        Check.isFalse("1 is not defended", x.isAdmissible(2));
        Check.isFalse("4 defends itself, but attacks itself", x.isAdmissible(16));
        x.put(4, false);
        Check.isTrue("0, and 4 is left aside", x.isAdmissible(17));
        x.put(0, false);
        Check.isTrue("1 and 3, and 0 is left aside", x.isAdmissible(11));
        Check.isFalse("2, and 0 is left aside", x.isAdmissible(5));
        Check.badValue("a 6th argument", x, () -> x.isAdmissible(32));
        Check.badValue("a negative set", x, () -> x.isAdmissible(-1));
    }

    private static void promise15() {
        DebateSolver x = chain();
        Check.same("IN", 1, x.label(0, 1));
        Check.same("OUT", 2, x.label(1, 1));
        Check.same("UNDECIDED", 0, x.label(3, 1));
        Check.same("BOTH", 3, x.label(1, 3));
        Check.same("BOTH by itself", 3, x.label(4, 16));
        Check.same("an attack on a member does not count", 0, x.label(0, 2));
        x.put(0, false);
        Check.same("out of the debate, and a member", 0, x.label(0, 1));
        Check.same("what is out attacks nothing", 0, x.label(1, 1));
        x.put(1, false);
        Check.same("out of the debate, and 0 is too", 0, x.label(1, 3));
        Check.noIndex("label(-1, 0)", x, () -> x.label(-1, 0));
        Check.noIndex("label(5, 0)", x, () -> x.label(5, 0));
        Check.noIndex("label(5, 32): the argument is named first", x, () -> x.label(5, 32));
        Check.badValue("label(4, 32)", x, () -> x.label(4, 32));
        Check.badValue("label(4, -1)", x, () -> x.label(4, -1));
        Check.badValue("label(0, 32), 0 is out", x, () -> x.label(0, 32));
    }

    private static void promise16() {
        DebateSolver x = chain();
        Check.same("an admissible set stays", 5, x.repair(5));
        Check.same("the empty set stays", 0, x.repair(0));
        Check.same("4 goes, as its attack on itself counts twice", 5, x.repair(21));
        // 1 and 2 have two attacks each: 1 goes, the smallest; then 2 has one as 3: 2 goes; 3 is not defended.
        Check.same("0, 1, 2, 3", 1, x.repair(15));
        Check.same("2 is not defended", 0, x.repair(4));
        x.put(0, false);
        Check.same("0 is left aside", 2, x.repair(3));
        Check.same("0 and 4, which is removed", 0, x.repair(17));
        Check.badValue("a 6th argument", x, () -> x.repair(32));
        Check.badValue("a negative set", x, () -> x.repair(-1));

        // 0 attacks 1; 1 defends 3 against 2; 3 defends 5 against 4: step by step all of them fall.
        DebateSolver fall = Check.plain(6, 0, 1, 2, 3, 1, 2, 4, 5, 3, 4);
        Check.same("what is defended by the undefended goes too", 0, fall.repair(42));
        fall.attack(1, 0, true);
        Check.same("nothing goes", 42, fall.repair(42));
    }

    private static void promise16Ties() {
        DebateSolver x = Check.debate(5, 3, 3);
        Check.attacks(x, 0, 1, 1, 2, 2, 0);
        // Each attacks one and is attacked by one; 1 and 2 weigh least; 1 goes; then 2 and 0 have one
        // attack each, and 2 weighs least; 0 is not defended then.
        Check.same("the lightest goes", 0, x.repair(7));
        x.attack(0, 2, true);
        // Now 0 and 2 have three: 2 is the lighter; then 0 and 1 have one: 1 goes; 0 is attacked by 2, and hits it.
        Check.same("the most attacks go", 1, x.repair(7));

        DebateSolver pair = Check.debate(2, 2);
        Check.attacks(pair, 0, 1, 1, 0);
        Check.same("of two the one with the smallest number goes", 2, pair.repair(3));
        pair.setWeight(1, 1);
        Check.same("but a lighter one goes first", 1, pair.repair(3));

        DebateSolver self = Check.debate(9, 1);
        Check.attacks(self, 0, 0, 1, 0);
        // 0 has three: twice its own and that of 1.
        Check.same("the attack on itself counts twice", 2, self.repair(3));
        DebateSolver even = Check.debate(9, 1, 1);
        Check.attacks(even, 0, 0, 1, 2, 2, 1);
        // All have two: 1 is the lightest with the smallest number, then 0 has two, and 2 none.
        Check.same("the attack on itself counts not more than twice", 4, even.repair(7));
    }
}
