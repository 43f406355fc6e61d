/** The edges that the document names for sets of arguments: "Labels." and promises 12 to 16. */
public final class SetEdgesTest {
    private static final int MIN = Integer.MIN_VALUE;

    public static void main(String[] args) {
        noArguments();
        nothingInTheDebate();
        leftAside();
        isFreeFromNoneToAll();
        noMemberAttacksAMember();
        defendedFromNoneToAll();
        eachAttackerIsAttacked();
        isAdmissibleFromNoneToAll();
        labels();
        labelOfWhatIsOut();
        repairFromNoneToAll();
        repairTakesTheMostQuarrelsome();
        anAttackOnItselfCountsTwice();
        ofSeveralTheLightestThenTheSmallest();
        asLongAsItIsNotDefended();
        whatIsNoArgument();
        Check.end("SetEdgesTest");
    }

    /** Without arguments there is just the empty set. */
    private static void noArguments() {
        DebateSolver x = new DebateSolver();
        Check.isTrue("no arguments: free", x.isFree(0));
        Check.same("no arguments: defended", 0, x.defended(0));
        Check.isTrue("no arguments: admissible", x.isAdmissible(0));
        Check.same("no arguments: repair", 0, x.repair(0));
        Check.badValue("no arguments: free", x, () -> x.isFree(1));
        Check.badValue("no arguments: defended", x, () -> x.defended(1));
        Check.badValue("no arguments: admissible", x, () -> x.isAdmissible(1));
        Check.badValue("no arguments: repair", x, () -> x.repair(1));
        Check.noIndex("no arguments: label", x, () -> x.label(0, 0));
    }

    /** All that a set has can be out of the debate. */
    private static void nothingInTheDebate() {
        DebateSolver x = Check.emptied(Check.quarrel(true));
        for (int set : new int[] {0, 1, 2048, 4095}) {
            Check.isTrue("nothing in: free " + set, x.isFree(set));
            Check.same("nothing in: defended " + set, 0, x.defended(set));
            Check.isTrue("nothing in: admissible " + set, x.isAdmissible(set));
            Check.same("nothing in: repair " + set, 0, x.repair(set));
            Check.same("nothing in: label " + set, 0, x.label(11, set));
        }
    }

    /** "those that are out of the debate are left aside": each answer is that of the set without them. */
    private static void leftAside() {
        DebateSolver x = Check.quarrel(true);
        for (int k = 0; k < 12; k++) {
            x.attack(k, k, k % 3 == 0);
        }
        x.put(0, false);
        x.put(6, false);
        x.put(11, false);
        int out = 1 | 1 << 6 | 1 << 11;
        for (int k = 0; k < 12; k++) {
            int inside = 1 << k & ~out;
            Check.isTrue("free", x.isFree(inside) == x.isFree(inside | out));
            Check.same("defended", x.defended(inside), x.defended(inside | out));
            Check.isTrue("admissible", x.isAdmissible(inside) == x.isAdmissible(inside | out));
            Check.same("label", x.label(k, inside), x.label(k, inside | out));
            Check.same("repair", x.repair(inside), x.repair(inside | out));
        }
        Check.isTrue("1 is free, and three are left aside", x.isFree(2 | out));
        Check.same("what is out defends nothing", 0, x.defended(out));
        Check.isTrue("1 is admissible, and three are left aside", x.isAdmissible(2 | out));
        Check.same("1 remains, and three are left aside", 2, x.repair(2 | out));
        Check.same("1 is not attacked by what is out", 1, x.label(1, 2 | out));
    }

    /** Promise 12: the empty set, one argument, and all of 12. */
    private static void isFreeFromNoneToAll() {
        DebateSolver calm = Check.plain(12);
        Check.isTrue("all, without attacks", calm.isFree(4095));
        calm.attack(11, 0, true);
        Check.isFalse("all, with one attack", calm.isFree(4095));
        Check.isFalse("just those two", calm.isFree(2049));
        Check.isTrue("all but the attacker", calm.isFree(2047));
        Check.isTrue("all but the attacked one", calm.isFree(4094));
        DebateSolver quarrel = Check.quarrel(false);
        Check.isTrue("the empty set", quarrel.isFree(0));
        for (int k = 0; k < 12; k++) {
            Check.isTrue("one alone", quarrel.isFree(1 << k));
            Check.isFalse("two", quarrel.isFree(1 << k | 1 << (k + 5) % 12));
        }
    }

    /** "A set is free of conflict if no member attacks a member": not itself either, and not if it is too weak. */
    private static void noMemberAttacksAMember() {
        DebateSolver x = Check.debate(3, 5, 3);
        Check.attacks(x, 0, 1, 2, 2);
        Check.isFalse("it attacks itself", x.isFree(4));
        Check.isFalse("0 attacks 1", x.isFree(3));
        x.setTolerance(2);
        Check.isFalse("just strong enough", x.isFree(3));
        x.setTolerance(1);
        Check.isTrue("just too weak", x.isFree(3));
        x.setTolerance(0);
        Check.isFalse("never too weak for itself", x.isFree(4));
    }

    /** Promise 13: by the empty set and by all; none, and all of 12. */
    private static void defendedFromNoneToAll() {
        DebateSolver calm = Check.plain(12);
        Check.same("nothing attacks: by the empty set", 4095, calm.defended(0));
        Check.same("nothing attacks: by all", 4095, calm.defended(4095));
        DebateSolver quarrel = Check.quarrel(true);
        Check.same("all attack all: by the empty set", 0, quarrel.defended(0));
        for (int k = 0; k < 12; k++) {
            Check.same("all attack all: by one", 4095, quarrel.defended(1 << k));
        }
        Check.same("all attack all: by all", 4095, quarrel.defended(4095));
    }

    /** "It defends an argument if each argument that attacks this one is attacked by a member." */
    private static void eachAttackerIsAttacked() {
        DebateSolver x = Check.plain(12);
        for (int k = 0; k < 11; k++) {
            Check.attacks(x, k, 11, 11, k);
        }
        Check.same("each of eleven attackers is attacked", 2048, x.defended(2048));
        x.attack(11, 5, false);
        Check.same("all but one are: 5 has no attacker, and 11 is not defended", 32, x.defended(2048));
        Check.same("5 has no attacker", 32, x.defended(0));
        x.attack(5, 5, true);
        Check.same("5 is attacked, but not by a member", 0, x.defended(2048));
        // 11, which attacks all others, is attacked by 5, and the attackers of 11 are all attacked.
        Check.same("5 does it itself as a member", 4095, x.defended(2080));
        x.attack(10, 5, true);
        Check.same("5 defends the others, but not 11, nor itself against 10", 2015, x.defended(32));
    }

    /** Promise 14: the empty set always; one argument; all of 12. */
    private static void isAdmissibleFromNoneToAll() {
        DebateSolver calm = Check.plain(12);
        Check.isTrue("all, without attacks", calm.isAdmissible(4095));
        calm.attack(0, 11, true);
        Check.isFalse("all, with one attack", calm.isAdmissible(4095));
        Check.isTrue("all but the attacked one", calm.isAdmissible(2047));
        Check.isFalse("free, but the last one is not defended", calm.isAdmissible(4094));
        DebateSolver quarrel = Check.quarrel(false);
        Check.isTrue("the empty set", quarrel.isAdmissible(0));
        for (int k = 0; k < 12; k++) {
            Check.isTrue("one against all", quarrel.isAdmissible(1 << k));
        }
        DebateSolver all = Check.quarrel(true);
        Check.isTrue("the empty set, where all attack all", all.isAdmissible(0));
        Check.isFalse("defended, but not free", all.isAdmissible(4095));
        Check.isFalse("one that attacks itself", all.isAdmissible(2048));
    }

    /** "IN (1) if it is a member, OUT (2) if a member attacks it, BOTH (3) if both is so, UNDECIDED (0) otherwise" */
    private static void labels() {
        DebateSolver x = Check.plain(12, 0, 11, 11, 11, 5, 0);
        Check.same("the first one IN", 1, x.label(0, 1));
        Check.same("the last one OUT", 2, x.label(11, 1));
        Check.same("the last one BOTH, by the first", 3, x.label(11, 2049));
        Check.same("the last one BOTH, by itself", 3, x.label(11, 2048));
        Check.same("the first one UNDECIDED in the empty set", 0, x.label(0, 0));
        Check.same("the last one UNDECIDED in the empty set", 0, x.label(11, 0));
        Check.same("attacked by what is no member", 0, x.label(0, 4062));
        Check.same("it attacks a member, no more", 0, x.label(5, 1));
        Check.same("all: BOTH", 3, x.label(0, 4095));
        Check.same("all: IN", 1, x.label(5, 4095));
    }

    /** "0 if it is out of the debate": also if the set has it, and if a member would attack it. */
    private static void labelOfWhatIsOut() {
        DebateSolver x = Check.plain(12, 0, 11, 11, 11);
        x.put(11, false);
        Check.same("a member", 0, x.label(11, 2048));
        Check.same("attacked by a member", 0, x.label(11, 1));
        Check.same("both", 0, x.label(11, 4095));
        Check.same("neither", 0, x.label(11, 0));
        x.put(11, true);
        x.put(0, false);
        Check.same("a member that is out does not attack", 0, x.label(11, 1));
        Check.noIndex("the argument is named before the set", x, () -> x.label(12, 4096));
        Check.noIndex("the argument -1", x, () -> x.label(-1, 0));
        Check.badValue("a 13th in the set", x, () -> x.label(0, 4096));
    }

    /** Promise 16: the empty set; what is admissible stays, all of 12 too; all of it can go. */
    private static void repairFromNoneToAll() {
        DebateSolver calm = Check.plain(12);
        Check.same("the empty set", 0, calm.repair(0));
        Check.same("all stay", 4095, calm.repair(4095));
        Check.same("one stays", 2048, calm.repair(2048));
        DebateSolver all = Check.quarrel(true);
        Check.same("all go", 0, all.repair(4095));
        Check.same("the last one goes", 0, all.repair(2048));
        Check.same("the empty set stays", 0, all.repair(0));
        DebateSolver quarrel = Check.quarrel(false);
        Check.same("all but the last one go", 2048, quarrel.repair(4095));
        quarrel.setWeight(5, 2);
        Check.same("all but the heaviest one go", 32, quarrel.repair(4095));
    }

    /** "the member is removed that attacks the most members and is attacked by the most, both counted together" */
    private static void repairTakesTheMostQuarrelsome() {
        DebateSolver x = Check.debate(1, 9, 1, 1);
        Check.attacks(x, 0, 1, 1, 2, 3, 1, 1, 3);
        // 1 has four; the others go on in peace, 0 and 2 alone, and 3 hits 1; 2 is defended by 0 and 3.
        Check.same("it goes though it is the heaviest", 13, x.repair(15));
        // Beside 0 it has one, and so has 0, which is lighter; 1 hits 3, but not 0.
        Check.same("what is no member does not count", 0, x.repair(3));
        DebateSolver attacker = Check.debate(9, 1, 1, 1);
        Check.attacks(attacker, 0, 1, 0, 2, 0, 3);
        Check.same("to attack three counts", 0, attacker.repair(15));
        DebateSolver attacked = Check.debate(9, 1, 1, 1);
        Check.attacks(attacked, 1, 0, 2, 0, 3, 0);
        Check.same("to be attacked by three counts", 14, attacked.repair(15));
    }

    /** "(an attack on itself counts twice)": not once, and not three times. */
    private static void anAttackOnItselfCountsTwice() {
        DebateSolver x = Check.debate(9, 2, 1);
        Check.attacks(x, 0, 0, 0, 1, 1, 0, 1, 2);
        // 0 has four and goes, then 2, the lighter one; were it three, 1 would go first, as it is lighter.
        Check.same("not once", 2, x.repair(7));
        DebateSolver y = Check.debate(9, 2, 1);
        Check.attacks(y, 0, 0, 0, 1, 1, 2, 2, 1);
        // 0 and 1 have three: 1 goes, the lighter one, then 0; were it four, 0 would go first, then 2.
        Check.same("not three times", 4, y.repair(7));
    }

    /** "of several the one with the least weight, then the one with the smallest number" */
    private static void ofSeveralTheLightestThenTheSmallest() {
        DebateSolver x = Check.plain(12, 0, 11, 11, 0);
        Check.same("of the first and the last one, the first one goes", 4094, x.repair(4095));
        x.setWeight(11, 9);
        Check.same("also if it is lighter", 4094, x.repair(4095));
        x.setWeight(0, 9);
        Check.same("also if both are heavy", 4094, x.repair(4095));
        x.setWeight(11, 8);
        Check.same("but not if it is heavier by one", 2047, x.repair(4095));
        DebateSolver last = Check.plain(12, 10, 11);
        Check.same("of the last two the smaller one goes, and 11 is not defended", 0, last.repair(3072));
        last.attack(11, 10, true);
        Check.same("of the last two the smaller one goes", 2048, last.repair(3072));
        DebateSolver ring = Check.debate(5, 4, 4);
        Check.attacks(ring, 0, 1, 1, 0, 1, 2, 2, 1, 2, 0, 0, 2);
        // 1 goes, the smaller one of two that are lighter than 0; then 2.
        Check.same("of three", 1, ring.repair(7));
    }

    /** "as long as it does not defend all its members, all those are removed that it does not defend" */
    private static void asLongAsItIsNotDefended() {
        DebateSolver x = Check.chain(12);
        int odd = 0b101010101010;
        Check.same("1 is not defended, so 3 is not, and so on: six times", 0, x.repair(odd));
        Check.same("five times", 0, x.repair(odd & ~2));
        x.attack(1, 0, true);
        Check.same("all are defended", odd, x.repair(odd));
        Check.same("without 5: 7 falls, 9 and 11 too", 0b1010, x.repair(odd & ~32));
        x.put(0, false);
        Check.same("nothing attacks 1", odd, x.repair(odd | 1));
    }

    /** "if set contains something that is no argument": the next one, a far one, the sign. */
    private static void whatIsNoArgument() {
        DebateSolver x = Check.plain(11);
        for (int wrong : new int[] {2048, 4095, 4096, 1 << 30, MIN, MIN + 1, -1, -2048, Integer.MAX_VALUE}) {
            Check.badValue("isFree " + wrong, x, () -> x.isFree(wrong));
            Check.badValue("defended " + wrong, x, () -> x.defended(wrong));
            Check.badValue("isAdmissible " + wrong, x, () -> x.isAdmissible(wrong));
            Check.badValue("label " + wrong, x, () -> x.label(10, wrong));
            Check.badValue("repair " + wrong, x, () -> x.repair(wrong));
        }
        Check.isTrue("all eleven", x.isFree(2047));
        x.addArgument(1);
        Check.isTrue("2048 is one now", x.isFree(2048));
        Check.badValue("but 4096 is not", x, () -> x.isFree(4096));
    }
}
