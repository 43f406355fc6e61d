import java.util.ArrayList;
import java.util.List;

/** The edges that the document names for positions and rounds: "Positions.", "Rounds." and promises 17 to 23. */
public final class PositionEdgesTest {
    private static final int COMPLETE = 0;
    private static final int GROUNDED = 1;
    private static final int PREFERRED = 2;
    private static final int STABLE = 3;
    private static final int STAGE = 4;
    private static final int SEMISTABLE = 5;
    private static final int IDEAL = 6;
    private static final int MIN = Integer.MIN_VALUE;
    private static final int MAX = Integer.MAX_VALUE;

    public static void main(String[] args) {
        nothingInTheDebate();
        oneArgument();
        allStandTogether();
        allAttackThemselves();
        allAttackTheOthers();
        completeHasAllThatItDefends();
        preferredIsNoPartOfAnother();
        stableLeavesNone();
        stageIsNoProperPart();
        semistableIsNoProperPart();
        idealHasEveryOther();
        oneGroundedAndOneIdeal();
        kindsZeroToSix();
        numberedFromZeroInAscendingOrder();
        noSuchPosition();
        acceptedIfThereIsNone();
        acceptedByAllOrBySome();
        heaviestOfMany();
        heaviestIfThereIsNone();
        supportFromNoneToAll();
        roundFromOne();
        roundsUntilOneHasNone();
        Check.end("PositionEdgesTest");
    }

    private static void list(String what, DebateSolver x, int kind, Integer... due) {
        Check.same(what, List.of(due), Check.list(x, kind));
    }

    /** The single arguments, from the first to the last. */
    private static Integer[] powers() {
        Integer[] powers = new Integer[12];
        for (int k = 0; k < 12; k++) {
            powers[k] = 1 << k;
        }
        return powers;
    }

    /** Six pairs, whose odd ones attack themselves, too. */
    private static DebateSolver oneSidedPairs() {
        DebateSolver x = Check.pairs();
        for (int k = 1; k < 12; k += 2) {
            x.attack(k, k, true);
        }
        return x;
    }

    /** Without arguments, and with 12 that are out, the empty set is the one position of each kind. */
    private static void nothingInTheDebate() {
        DebateSolver none = new DebateSolver();
        DebateSolver out = Check.emptied(Check.quarrel(true));
        for (int kind = 0; kind <= 6; kind++) {
            list("no arguments: kind " + kind, none, kind, 0);
            list("nothing in: kind " + kind, out, kind, 0);
            Check.same("no arguments: heaviest " + kind, 0, none.heaviest(kind));
            Check.same("nothing in: heaviest " + kind, 0, out.heaviest(kind));
            Check.same("nothing in: accepted by all " + kind, 0, out.accepted(kind, true));
            Check.same("nothing in: accepted by some " + kind, 0, out.accepted(kind, false));
        }
        Check.same("nothing in: support", 0.0, out.support(0));
        Check.same("nothing in: round", 0, out.round(0));
        Check.same("nothing in: rounds", 0, out.rounds());
    }

    private static void oneArgument() {
        for (int kind = 0; kind <= 6; kind++) {
            list("one in peace: kind " + kind, Check.plain(1), kind, 1);
            DebateSolver last = Check.emptied(Check.plain(12));
            last.put(11, true);
            list("the last one alone in the debate: kind " + kind, last, kind, 2048);
            DebateSolver self = Check.plain(1, 0, 0);
            if (kind == STABLE) {
                list("one that attacks itself: stable", self, kind);
            } else {
                list("one that attacks itself: kind " + kind, self, kind, 0);
            }
        }
    }

    private static void allStandTogether() {
        DebateSolver x = Check.plain(12);
        for (int kind = 0; kind <= 6; kind++) {
            list("12 in peace: kind " + kind, x, kind, 4095);
            Check.same("12 in peace: all accepted", 4095, x.accepted(kind, true));
            Check.same("12 in peace: some accepted", 4095, x.accepted(kind, false));
        }
    }

    private static void allAttackThemselves() {
        DebateSolver x = Check.plain(12);
        for (int k = 0; k < 12; k++) {
            x.attack(k, k, true);
        }
        for (int kind = 0; kind <= 6; kind++) {
            Check.same("all attack themselves: kind " + kind, kind == STABLE ? 0 : 1, x.positions(kind));
            Check.same("all attack themselves: none accepted " + kind, 0, x.accepted(kind, false));
            Check.same("all attack themselves: heaviest " + kind, kind == STABLE ? -1 : 0, x.heaviest(kind));
        }
    }

    private static void allAttackTheOthers() {
        DebateSolver x = Check.quarrel(false);
        List<Integer> complete = new ArrayList<>(List.of(0));
        complete.addAll(List.of(powers()));
        Check.same("all attack the others: complete", complete, Check.list(x, COMPLETE));
        list("all attack the others: grounded", x, GROUNDED, 0);
        for (int kind : new int[] {PREFERRED, STABLE, STAGE, SEMISTABLE}) {
            list("all attack the others: kind " + kind, x, kind, powers());
        }
        list("all attack the others: ideal", x, IDEAL, 0);
    }

    /** "admissible sets that have all arguments that they defend" */
    private static void completeHasAllThatItDefends() {
        DebateSolver x = Check.chain(12);
        list("what is defended by the first ones belongs to them", x, COMPLETE, 0b010101010101);
        x.attack(1, 0, true);
        list("or nothing is, or the odd ones", x, COMPLETE, 0, 0b010101010101, 0b101010101010);
        x.attack(0, 0, true);
        list("0 can not be held any more", x, COMPLETE, 0, 0b101010101010);
    }

    /** "admissible sets that are no part of another admissible set" */
    private static void preferredIsNoPartOfAnother() {
        list("of 64 one is left", oneSidedPairs(), PREFERRED, 0b010101010101);
        Check.same("of 64 complete ones", 64, oneSidedPairs().positions(COMPLETE));
        list("the empty one, if there is no other", Check.ring(11), PREFERRED, 0);
        list("the empty one is a part of others", Check.ring(12), PREFERRED, 0b010101010101, 0b101010101010);
    }

    /** "sets free of conflict that attack each argument that is not in them": not one may be left. */
    private static void stableLeavesNone() {
        DebateSolver x = Check.plain(12, 11, 11);
        list("nothing attacks the last one, and it attacks itself", x, STABLE);
        x.attack(0, 11, true);
        list("the first one attacks it", x, STABLE, 2047);
        x.attack(11, 11, false);
        x.put(0, false);
        list("the first one is out", x, STABLE, 4094);
        list("a ring of eleven has none", Check.ring(11), STABLE);
        // 0 is too weak for 1: so 1 is not attacked, and stands.
        DebateSolver weak = Check.debate(1, 9);
        weak.attack(0, 1, true);
        list("attacked", weak, STABLE, 1);
        weak.setTolerance(7);
        list("not attacked", weak, STABLE, 3);
    }

    /** "not a proper part of the same for another set free of conflict": the same may come twice. */
    private static void stageIsNoProperPart() {
        DebateSolver x = Check.plain(3, 0, 1, 1, 0, 2, 2);
        list("both reach the same", x, STAGE, 1, 2);
        x.attack(1, 2, true);
        list("one reaches more", x, STAGE, 2);
        Check.same("a ring of eleven: each has five of it, and leaves one", 11, Check.ring(11).positions(STAGE));
        list("nothing can be held", Check.plain(2, 0, 0, 1, 1), STAGE, 0);
    }

    /** "not a proper part of the same for another admissible set": the same may come twice. */
    private static void semistableIsNoProperPart() {
        DebateSolver x = Check.plain(3, 0, 1, 1, 0, 2, 2);
        list("both reach the same", x, SEMISTABLE, 1, 2);
        x.attack(1, 2, true);
        list("one reaches more", x, SEMISTABLE, 2);
        list("but both are preferred", x, PREFERRED, 1, 2);
        list("the empty one, if there is no other", Check.ring(11), SEMISTABLE, 0);
    }

    /** "the admissible set that is a part of all preferred ones and has every other such set as a part" */
    private static void idealHasEveryOther() {
        list("more than the grounded one", oneSidedPairs(), IDEAL, 0b010101010101);
        list("which is empty", oneSidedPairs(), GROUNDED, 0);
        list("nothing is in all 64 preferred ones", Check.pairs(), IDEAL, 0);
        // 0 and 1 attack each other, and both attack 2, which attacks 3: 3 is in both, but not defended.
        DebateSolver x = Check.plain(4, 0, 1, 1, 0, 0, 2, 1, 2, 2, 3);
        Check.same("3 is in all preferred ones", 8, x.accepted(PREFERRED, true));
        list("but 3 alone is not admissible", x, IDEAL, 0);
        x.attack(3, 2, true);
        list("now it defends itself", x, IDEAL, 8);
    }

    /** "There are always a grounded and an ideal one, and just one of each": in all debates of three. */
    private static void oneGroundedAndOneIdeal() {
        for (int graph = 0; graph < 512; graph++) {
            DebateSolver x = Check.plain(3);
            for (int k = 0; k < 9; k++) {
                x.attack(k / 3, k % 3, (graph >> k & 1) == 1);
            }
            Check.same("grounded of " + graph, 1, x.positions(GROUNDED));
            Check.same("ideal of " + graph, 1, x.positions(IDEAL));
            int grounded = x.position(GROUNDED, 0);
            int ideal = x.position(IDEAL, 0);
            Check.same("grounded is the first complete one of " + graph, grounded, x.position(COMPLETE, 0));
            Check.same("grounded is a part of all others of " + graph, grounded, x.accepted(COMPLETE, true));
            Check.isTrue("ideal is admissible of " + graph, x.isAdmissible(ideal));
            Check.same("ideal is a part of the preferred ones of " + graph, 0, ideal & ~x.accepted(PREFERRED, true));
            Check.same("grounded is a part of ideal of " + graph, 0, grounded & ~ideal);
        }
    }

    /** "if kind is not 0 to 6" */
    private static void kindsZeroToSix() {
        DebateSolver x = Check.pairs();
        int[] due = {729, 1, 64, 64, 64, 64, 1};
        for (int kind = 0; kind <= 6; kind++) {
            Check.same("kind " + kind, due[kind], x.positions(kind));
        }
        for (int wrong : new int[] {-1, 7, MIN, MAX}) {
            Check.noIndex("positions " + wrong, x, () -> x.positions(wrong));
            Check.noIndex("position " + wrong, x, () -> x.position(wrong, 0));
            Check.noIndex("accepted by all " + wrong, x, () -> x.accepted(wrong, true));
            Check.noIndex("accepted by some " + wrong, x, () -> x.accepted(wrong, false));
            Check.noIndex("heaviest " + wrong, x, () -> x.heaviest(wrong));
        }
    }

    /** "numbered from 0 in ascending order of the numbers that tell them" */
    private static void numberedFromZeroInAscendingOrder() {
        for (int kind : new int[] {PREFERRED, STABLE, STAGE, SEMISTABLE}) {
            List<Integer> pairs = Check.list(Check.pairs(), kind);
            Check.same("the first of kind " + kind, 0b010101010101, pairs.get(0));
            Check.same("the last of kind " + kind, 0b101010101010, pairs.get(63));
            ascending("kind " + kind, pairs);
        }
        DebateSolver x = Check.pairs();
        Check.same("the first complete one", 0, x.position(COMPLETE, 0));
        Check.same("the last complete one", 0b101010101010, x.position(COMPLETE, 728));
        List<Integer> complete = new ArrayList<>();
        for (int index = 0; index < 729; index += 2) {
            complete.add(x.position(COMPLETE, index));
        }
        ascending("complete", complete);
    }

    private static void ascending(String what, List<Integer> list) {
        for (int k = 1; k < list.size(); k++) {
            Check.isTrue(what + " ascends at " + k, list.get(k - 1) < list.get(k));
        }
    }

    /** "if kind is not 0 to 6, or there is no such position" */
    private static void noSuchPosition() {
        DebateSolver x = Check.pairs();
        for (int kind = 0; kind <= 6; kind++) {
            int right = kind;
            int size = x.positions(kind);
            for (int wrong : new int[] {-1, size, MIN, MAX}) {
                Check.noIndex("position " + wrong + " of " + kind, x, () -> x.position(right, wrong));
            }
        }
        DebateSolver ring = Check.ring(3);
        Check.noIndex("there is no stable one", ring, () -> ring.position(STABLE, 0));
        Check.noIndex("of the stage ones there are three", ring, () -> ring.position(STAGE, 3));
        ring.put(0, false);
        Check.same("now there is", 2, ring.position(STABLE, 0));
        Check.noIndex("but of the stage ones there is just one", ring, () -> ring.position(STAGE, 1));
    }

    /** "by all positions of a kind if all of them have it (also if there are none)" */
    private static void acceptedIfThereIsNone() {
        DebateSolver x = Check.plain(12, 11, 11);
        Check.same("there is no stable one", 0, x.positions(STABLE));
        Check.same("all of none have all, even the one that attacks itself", 4095, x.accepted(STABLE, true));
        Check.same("none of none has one", 0, x.accepted(STABLE, false));
        x.put(0, false);
        Check.same("all that are in the debate", 4094, x.accepted(STABLE, true));
        DebateSolver self = Check.plain(1, 0, 0);
        Check.same("the only argument", 1, self.accepted(STABLE, true));
        self.put(0, false);
        Check.same("nothing in the debate", 0, self.accepted(STABLE, true));
    }

    /** "if all of them have it"; "if one of them has it" */
    private static void acceptedByAllOrBySome() {
        DebateSolver x = Check.pairs();
        Check.same("all of 64 have none", 0, x.accepted(PREFERRED, true));
        Check.same("some of 64 have each", 4095, x.accepted(PREFERRED, false));
        x.attack(11, 10, false);
        Check.same("all of 32 have 10", 1024, x.accepted(PREFERRED, true));
        Check.same("none of 32 has 11", 2047, x.accepted(PREFERRED, false));
        Check.same("all complete ones have 10", 1024, x.accepted(COMPLETE, true));
        DebateSolver quarrel = Check.quarrel(false);
        Check.same("one of 12 has the last one", 4095, quarrel.accepted(STAGE, false));
        Check.same("but not all", 0, quarrel.accepted(STAGE, true));
    }

    /** "with the greatest sum of weights, of several the one that is told by the smallest number" */
    private static void heaviestOfMany() {
        DebateSolver x = Check.pairs();
        Check.same("64 as heavy", 0b010101010101, x.heaviest(PREFERRED));
        Check.same("also among all complete ones", 0b010101010101, x.heaviest(COMPLETE));
        x.setWeight(11, 2);
        Check.same("32 as heavy", 0b100101010101, x.heaviest(PREFERRED));
        for (int k = 1; k < 12; k += 2) {
            x.setWeight(k, 9);
        }
        Check.same("the last one of all, with 54", 0b101010101010, x.heaviest(COMPLETE));
        for (int k = 0; k < 12; k += 2) {
            x.setWeight(k, 9);
        }
        Check.same("all as heavy again", 0b010101010101, x.heaviest(COMPLETE));
        Check.same("the heaviest that there can be", 4095,
                Check.debate(9, 9, 9, 9, 9, 9, 9, 9, 9, 9, 9, 9).heaviest(STABLE));
    }

    /** "-1 if there is none": not if it is the empty one. */
    private static void heaviestIfThereIsNone() {
        DebateSolver x = Check.ring(3);
        Check.same("no stable one", -1, x.heaviest(STABLE));
        Check.same("the empty grounded one", 0, x.heaviest(GROUNDED));
        Check.same("the empty ideal one", 0, x.heaviest(IDEAL));
        Check.same("the first stage one", 1, x.heaviest(STAGE));
        x.put(1, false);
        Check.same("there is one now", 4, x.heaviest(STABLE));
    }

    /** "the number of complete positions that have it, divided by the number of complete positions" */
    private static void supportFromNoneToAll() {
        DebateSolver calm = Check.plain(12);
        Check.same("all of one", 1.0, calm.support(11));
        DebateSolver quarrel = Check.quarrel(false);
        Check.same("one of 13, the first", 1.0 / 13, quarrel.support(0));
        Check.same("one of 13, the last", 1.0 / 13, quarrel.support(11));
        DebateSolver pairs = Check.pairs();
        Check.same("243 of 729", 243.0 / 729.0, pairs.support(11));
        pairs.attack(10, 11, false);
        Check.same("all of 243", 1.0, pairs.support(11));
        Check.same("none of 243", 0.0, pairs.support(10));
        Check.same("81 of 243", 81.0 / 243.0, pairs.support(9));
        pairs.put(11, false);
        Check.same("what is out", 0.0, pairs.support(11));
        Check.same("all, without it", 1.0, pairs.support(10));
        DebateSolver self = Check.plain(1, 0, 0);
        Check.same("none of one", 0.0, self.support(0));
    }

    /** "the round in which it comes into the grounded set, from 1; 0 if it is not in it" */
    private static void roundFromOne() {
        DebateSolver x = Check.chain(12);
        for (int k = 0; k < 12; k++) {
            Check.same("round of " + k, k % 2 == 0 ? k / 2 + 1 : 0, x.round(k));
        }
        x.put(0, false);
        for (int k = 0; k < 12; k++) {
            Check.same("round of " + k + " without 0", k % 2 == 0 ? 0 : k / 2 + 1, x.round(k));
        }
        DebateSolver calm = Check.plain(12);
        Check.same("all in round 1", 1, calm.round(11));
        DebateSolver ring = Check.ring(12);
        Check.same("none in a ring", 0, ring.round(0));
        DebateSolver backwards = Check.plain(12);
        for (int k = 11; k > 0; k--) {
            backwards.attack(k, k - 1, true);
        }
        Check.same("the last one first", 1, backwards.round(11));
        Check.same("the second one last", 6, backwards.round(1));
        Check.same("the first one never", 0, backwards.round(0));
        // 2 is defended by 0 in round 2, but 4 as soon as nothing attacks it.
        DebateSolver both = Check.plain(5, 0, 1, 1, 2, 3, 2, 4, 3);
        Check.same("nothing attacks 4", 1, both.round(4));
        Check.same("2 needs both 0 and 4", 2, both.round(2));
        // 5 is attacked by 1 and 4: 0 hits 1 in round 1, but 3 hits 4 in round 2: it comes in round 3.
        DebateSolver late = Check.plain(6, 0, 1, 1, 5, 0, 2, 2, 3, 3, 4, 4, 5);
        Check.same("the later one of its defenders counts", 3, late.round(5));
    }

    /** "and so on, until a round has none"; "the number of rounds that have arguments" */
    private static void roundsUntilOneHasNone() {
        Check.same("no arguments", 0, new DebateSolver().rounds());
        Check.same("nothing attacks", 1, Check.plain(12).rounds());
        for (int count = 1; count <= 12; count++) {
            Check.same("a chain of " + count, (count + 1) / 2, Check.chain(count).rounds());
        }
        Check.same("a ring has none", 0, Check.ring(12).rounds());
        Check.same("all attack all", 0, Check.quarrel(true).rounds());
        DebateSolver x = Check.chain(12);
        x.attack(5, 5, true);
        Check.same("5 has no round anyway", 6, x.rounds());
        x.attack(4, 4, true);
        Check.same("0 and 2, then no more", 2, x.rounds());
    }
}
