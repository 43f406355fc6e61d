import java.math.BigInteger;
import java.util.ArrayList;
import java.util.List;

/** The edges that the document names for disputes, changes, ways and the checksum: promises 24 to 30. */
public final class ChangeEdgesTest {
    public static void main(String[] args) {
        whoCannotMoveLoses();
        theFirstMustNotMoveAgain();
        theSecondCanMoveAgain();
        whatIsOutWinsNothing();
        silenceOfNothing();
        silenceOfAllOthers();
        silenceAsFewAsCanBe();
        silenceTheSmallestNumber();
        silenceIfThereIsNone();
        tolerableForEachDifference();
        tolerableTheGreatest();
        tolerableIfThereIsNone();
        leadsByAtLeastOne();
        leadsByAttacksThatWork();
        noReturn();
        theLongestReturns();
        argumentsCanComeAgain();
        digestOfNothing();
        digestWrapsAround();
        digestTellsWhatItReads();
        Check.end("ChangeEdgesTest");
    }

    /** "Who cannot move loses." */
    private static void whoCannotMoveLoses() {
        DebateSolver x = Check.chain(12);
        for (int k = 0; k < 12; k++) {
            Check.isTrue("in a chain of 12: " + k, x.wins(k) == (k % 2 == 0));
        }
        DebateSolver calm = Check.plain(12);
        Check.isTrue("the second one cannot move at all: 0", calm.wins(0));
        Check.isTrue("the second one cannot move at all: 11", calm.wins(11));
        // Both attackers of 2 must be answered: 3 is, 1 only as long as 0 is in.
        DebateSolver two = Check.plain(5, 0, 1, 1, 2, 3, 2, 4, 3);
        Check.isTrue("each attacker is answered", two.wins(2));
        two.put(0, false);
        Check.isFalse("one is not", two.wins(2));
    }

    /** "The first player must not move with an argument again that either player has moved with" */
    private static void theFirstMustNotMoveAgain() {
        DebateSolver pair = Check.plain(12, 0, 11, 11, 0);
        Check.isFalse("0 is used", pair.wins(0));
        Check.isFalse("11 is used", pair.wins(11));
        Check.isTrue("the others are not attacked", pair.wins(5));
        DebateSolver self = Check.plain(2, 0, 0, 1, 1);
        Check.isFalse("the second one moved with it, too", self.wins(0));
        self.attack(1, 0, true);
        // 0 is attacked by 0 and 1; 1 is its own and only attacker, and the second one has used it.
        Check.isFalse("the second one used it", self.wins(0));
        Check.isFalse("a ring of 12", Check.ring(12).wins(0));
        Check.isFalse("a ring of eleven", Check.ring(11).wins(10));
        Check.isFalse("all attack the others", Check.quarrel(false).wins(11));
    }

    /** "the second one can move with each argument as often as they like" */
    private static void theSecondCanMoveAgain() {
        // 0; 2 attacks it; 1 attacks 2; now the second one moves with 0, which the first one moved with.
        Check.isFalse("a ring of three: what the first one used", Check.ring(3).wins(0));
        // 0; 1 attacks it; 2 to 11 attack 1 and are attacked by it: 1 comes eleven times.
        DebateSolver x = Check.plain(12, 1, 0);
        for (int k = 2; k < 12; k++) {
            Check.attacks(x, k, 1, 1, k);
        }
        Check.isFalse("what the second one used, as often as it takes", x.wins(0));
        x.attack(1, 11, false);
        Check.isTrue("but 11 has no attacker then", x.wins(0));
    }

    /** "false if it is out of the debate" */
    private static void whatIsOutWinsNothing() {
        DebateSolver x = Check.plain(12);
        for (int k = 0; k < 12; k++) {
            Check.isTrue("in", x.wins(k));
            x.put(k, false);
            Check.isFalse("out", x.wins(k));
        }
        x.put(11, true);
        Check.isTrue("in again", x.wins(11));
    }

    /** "0 if it is in the grounded set" */
    private static void silenceOfNothing() {
        DebateSolver x = Check.chain(12);
        Check.same("in the first round", 0, x.silence(0));
        Check.same("in the last round", 0, x.silence(10));
        Check.same("alone", 0, Check.plain(1).silence(0));
        DebateSolver last = Check.emptied(Check.quarrel(false));
        last.put(11, true);
        Check.same("all the others are out", 0, last.silence(11));
    }

    /** "others than this one": it can take all the others, but never the argument itself, nor what is out. */
    private static void silenceOfAllOthers() {
        DebateSolver x = Check.quarrel(false);
        for (int k = 0; k < 12; k++) {
            Check.same("all but " + k, 4095 - (1 << k), x.silence(k));
        }
        x.put(3, false);
        Check.same("all but 0, and 3 is out already", 4095 - 1 - 8, x.silence(0));
        Check.same("the debate stays as it is", 4095 - 8, x.debate());
    }

    /** "as few as can be": a single one of a great number goes before two of small ones. */
    private static void silenceAsFewAsCanBe() {
        // 0 and 1 attack 3, 2 attacks both, and 11 attacks 2: without 11, 2 defends 3.
        DebateSolver x = Check.plain(12, 0, 3, 1, 3, 2, 0, 2, 1, 11, 2);
        Check.same("11 alone, not 0 and 1", 2048, x.silence(3));
        x.attack(11, 11, true);
        Check.same("also if it attacks itself", 2048, x.silence(3));
        x.attack(4, 2, true);
        Check.same("now 0 and 1, not 4 and 11", 3, x.silence(3));
        x.attack(10, 2, true);
        x.put(0, false);
        Check.same("now 1 alone", 2, x.silence(3));
    }

    /** "of several such sets the one that is told by the smallest number" */
    private static void silenceTheSmallestNumber() {
        // 3 is unattacked and attacks 2, which attacks 1, which attacks 0: without 1 or 3, 0 is grounded.
        DebateSolver attacker = Check.plain(4, 1, 0, 2, 1, 3, 2);
        Check.same("its attacker", 2, attacker.silence(0));
        DebateSolver defender = Check.plain(4, 3, 0, 2, 3, 1, 2);
        Check.same("the attacker of its defender", 2, defender.silence(0));
        // 10 and 11 attack 0; 10 falls without 1, and 11 without 2: any one of each pair must go.
        DebateSolver four = Check.plain(12, 10, 0, 3, 10, 1, 3, 11, 0, 4, 11, 2, 4);
        Check.same("of four such sets", 6, four.silence(0));
        // 2 and 3 attack 0; 5 attacks both, and 1 and 4 attack 5: 12 is less than 18, though 1 is less than 2.
        DebateSolver told = Check.plain(6, 2, 0, 3, 0, 5, 2, 5, 3, 1, 5, 4, 5);
        Check.same("the number that tells the set, not its first argument", 12, told.silence(0));
    }

    /** "-1 if there is none": it attacks itself, or it is out. */
    private static void silenceIfThereIsNone() {
        DebateSolver x = Check.quarrel(true);
        Check.same("the first one attacks itself", -1, x.silence(0));
        Check.same("the last one attacks itself", -1, x.silence(11));
        x.attack(11, 11, false);
        Check.same("the last one does not any more", 2047, x.silence(11));
        x.put(11, false);
        Check.same("what is out", -1, x.silence(11));
        DebateSolver alone = Check.plain(1, 0, 0);
        Check.same("it attacks itself, and there are no others", -1, alone.silence(0));
        alone.attack(0, 0, false);
        alone.put(0, false);
        Check.same("nothing is in the debate", -1, alone.silence(0));
    }

    /** "the greatest tolerance for which it is in the grounded set": one below the difference of weights. */
    private static void tolerableForEachDifference() {
        for (int weight = 1; weight <= 9; weight++) {
            for (int attacker = 1; attacker <= 9; attacker++) {
                DebateSolver x = Check.debate(attacker, weight);
                x.attack(0, 1, true);
                int due = weight > attacker ? weight - attacker - 1 : -1;
                Check.same(attacker + " on " + weight, due, x.tolerable(1));
                Check.same("what nothing attacks", 9, x.tolerable(0));
            }
        }
    }

    /** "the greatest tolerance": greater and smaller ones may not help. "others as they are": nothing changes. */
    private static void tolerableTheGreatest() {
        // 0 attacks 1 from 3 on, 1 attacks 2 always, and 3 attacks 0 from 5 on: 2 is grounded at 3 and 4.
        DebateSolver x = Check.debate(6, 9, 9, 1);
        Check.attacks(x, 0, 1, 1, 2, 3, 0);
        boolean[] due = {false, false, false, true, true, false, false, false, false, false};
        for (int tolerance = 0; tolerance <= 9; tolerance++) {
            x.setTolerance(tolerance);
            Check.isTrue("grounded at " + tolerance, x.wins(2) == due[tolerance]);
            Check.same("the greatest, told at " + tolerance, 4, x.tolerable(2));
            Check.same("the attacker stands up to 9, told at " + tolerance, 9, x.tolerable(1));
        }
        Check.same("the tolerance stays", 9, x.setTolerance(0));
        x.put(3, false);
        Check.same("without 3", 9, x.tolerable(2));
        Check.same("its attacker then", 2, x.tolerable(1));
    }

    /** "-1 if there is none" */
    private static void tolerableIfThereIsNone() {
        DebateSolver x = Check.quarrel(true);
        Check.same("all attack all: the first", -1, x.tolerable(0));
        Check.same("all attack all: the last", -1, x.tolerable(11));
        x.setWeight(11, 9);
        Check.same("it attacks itself at each tolerance", -1, x.tolerable(11));
        x.attack(11, 11, false);
        Check.same("the others are too weak up to 7", 7, x.tolerable(11));
        x.setWeight(0, 9);
        Check.same("but one is as strong", -1, x.tolerable(11));
        x.setWeight(0, 8);
        Check.same("one is weaker by 1: just at 0", 0, x.tolerable(11));
        x.put(11, false);
        Check.same("what is out", -1, x.tolerable(11));
    }

    /** "a way from a to b by attacks that work, one after the other, at least one" */
    private static void leadsByAtLeastOne() {
        DebateSolver x = Check.chain(12);
        for (int a = 0; a < 12; a++) {
            for (int b = 0; b < 12; b++) {
                Check.isTrue("chain: " + a + " to " + b, x.leads(a, b) == a < b);
            }
        }
        DebateSolver y = Check.ring(12);
        for (int a = 0; a < 12; a++) {
            for (int b = 0; b < 12; b++) {
                Check.isTrue("ring: " + a + " to " + b, y.leads(a, b));
            }
        }
        DebateSolver one = Check.plain(1);
        Check.isFalse("not to itself without an attack", one.leads(0, 0));
        one.attack(0, 0, true);
        Check.isTrue("to itself by one", one.leads(0, 0));
    }

    private static void leadsByAttacksThatWork() {
        DebateSolver x = Check.ring(12);
        x.put(5, false);
        Check.isFalse("over what is out", x.leads(4, 6));
        Check.isFalse("from what is out", x.leads(5, 6));
        Check.isFalse("to what is out", x.leads(4, 5));
        Check.isFalse("from what is out to itself", x.leads(5, 5));
        Check.isTrue("the long way, by ten", x.leads(6, 4));
        x.put(5, true);
        x.setTolerance(0);
        Check.isTrue("as heavy", x.leads(4, 6));
        x.setWeight(5, 2);
        Check.isFalse("4 is too weak for 5", x.leads(4, 6));
        x.setTolerance(1);
        Check.isTrue("just strong enough", x.leads(4, 6));
    }

    /** No argument, no attack, no ring. */
    private static void noReturn() {
        Check.same("no arguments: even", 0, new DebateSolver().even());
        Check.same("no arguments: odd", 0, new DebateSolver().odd());
        Check.same("no attacks: even", 0, Check.plain(12).even());
        Check.same("no attacks: odd", 0, Check.plain(12).odd());
        Check.same("a chain: even", 0, Check.chain(12).even());
        Check.same("a chain: odd", 0, Check.chain(12).odd());
        DebateSolver out = Check.emptied(Check.quarrel(true));
        Check.same("nothing in the debate: even", 0, out.even());
        Check.same("nothing in the debate: odd", 0, out.odd());
    }

    /** "by an even number of attacks", "by an odd number": as many as it takes. */
    private static void theLongestReturns() {
        Check.same("a ring of 12: even", 4095, Check.ring(12).even());
        Check.same("a ring of 12: odd", 0, Check.ring(12).odd());
        Check.same("a ring of eleven, by 22: even", 2047, Check.ring(11).even());
        Check.same("a ring of eleven: odd", 2047, Check.ring(11).odd());
        // Eleven steps there, one by the last one to itself, and eleven steps back.
        DebateSolver x = Check.chain(12);
        for (int k = 0; k < 11; k++) {
            x.attack(k + 1, k, true);
        }
        Check.same("there and back: even", 4095, x.even());
        Check.same("there and back: odd", 0, x.odd());
        x.attack(11, 11, true);
        Check.same("by 23: odd", 4095, x.odd());
        Check.same("all attack all: even", 4095, Check.quarrel(true).even());
        Check.same("all attack all: odd", 4095, Check.quarrel(true).odd());
    }

    /** "(some way of at least one attack, on which arguments can come again)" */
    private static void argumentsCanComeAgain() {
        DebateSolver self = Check.plain(12, 11, 11);
        Check.same("to itself once: odd", 2048, self.odd());
        Check.same("to itself twice: even", 2048, self.even());
        DebateSolver pair = Check.pairs();
        Check.same("pairs: even", 4095, pair.even());
        Check.same("pairs: odd", 0, pair.odd());
        pair.attack(1, 1, true);
        Check.same("1 comes again on the way of 0: odd", 3, pair.odd());
        pair.put(1, false);
        Check.same("which is out: odd", 0, pair.odd());
        Check.same("which is out: even", 4095 - 3, pair.even());
        DebateSolver rings = Check.plain(5, 0, 1, 1, 2, 2, 0, 2, 3, 3, 2, 4, 4);
        // 3 comes back to itself over 2 by two, or by five with the ring of three.
        Check.same("two rings: odd", 31, rings.odd());
        Check.same("two rings: even", 31, rings.even());
    }

    /** "A number d starts with 163": no arguments, the tolerance, and the empty set of each kind. */
    private static void digestOfNothing() {
        List<Integer> numbers = new ArrayList<>(List.of(0, 9));
        for (int kind = 0; kind <= 6; kind++) {
            numbers.addAll(List.of(1, 0));
        }
        DebateSolver x = new DebateSolver();
        Check.same("no arguments", wrapped(numbers), x.digest());
        x.setTolerance(0);
        numbers.set(1, 0);
        Check.same("no arguments, tolerance 0", wrapped(numbers), x.digest());
    }

    /** "which wraps around as a 64-bit integer": reckoned here with numbers of any length. */
    private static void digestWrapsAround() {
        int negative = 0;
        int positive = 0;
        for (int weight = 1; weight <= 9; weight++) {
            DebateSolver x = Check.pairs();
            x.setWeight(11, weight);
            List<Integer> numbers = new ArrayList<>(List.of(12));
            for (int k = 0; k < 12; k++) {
                numbers.addAll(List.of(k == 11 ? weight : 1, 1, 1 << (k ^ 1)));
            }
            numbers.add(9);
            addPairPositions(numbers);
            Check.isTrue("far beyond 64 bits", exact(numbers).bitLength() > 4000);
            Check.same("12 in pairs, the last one of weight " + weight, wrapped(numbers), x.digest());
            negative += x.digest() < 0 ? 1 : 0;
            positive += x.digest() > 0 ? 1 : 0;
        }
        Check.isTrue("some are negative, some are not", negative > 0 && positive > 0);
    }

    /** The positions of the six pairs: of each pair none or one is in a complete one, just one in the others. */
    private static void addPairPositions(List<Integer> numbers) {
        List<Integer> complete = new ArrayList<>();
        List<Integer> whole = new ArrayList<>();
        for (int set = 0; set < 4096; set++) {
            boolean isBoth = (set & set >> 1 & 0b010101010101) != 0;
            if (!isBoth) {
                complete.add(set);
            }
            if (!isBoth && Integer.bitCount(set) == 6) {
                whole.add(set);
            }
        }
        numbers.add(complete.size());
        numbers.addAll(complete);
        numbers.addAll(List.of(1, 0));
        for (int kind = 2; kind <= 5; kind++) {
            numbers.add(whole.size());
            numbers.addAll(whole);
        }
        numbers.addAll(List.of(1, 0));
    }

    /** What is out has a weight, but no attackers; attacks that do not work do not show. */
    private static void digestTellsWhatItReads() {
        DebateSolver x = Check.debate(9, 1);
        Check.attacks(x, 1, 0, 1, 1);
        x.setTolerance(7);
        // 1 is too weak for 0, and attacks itself: {0} is all that can be held, and not stable.
        Check.same("too weak", wrapped(List.of(2, 9, 1, 0, 1, 1, 2, 7, 1, 1, 1, 1, 1, 1, 0, 1, 1, 1, 1, 1, 1)),
                x.digest());
        x.put(1, false);
        Check.same("out", wrapped(List.of(2, 9, 1, 0, 1, 0, 0, 7, 1, 1, 1, 1, 1, 1, 1, 1, 1, 1, 1, 1, 1, 1)),
                x.digest());
        x.put(0, false);
        Check.same("nothing in the debate",
                wrapped(List.of(2, 9, 0, 0, 1, 0, 0, 7, 1, 0, 1, 0, 1, 0, 1, 0, 1, 0, 1, 0, 1, 0)), x.digest());
    }

    private static BigInteger exact(List<Integer> numbers) {
        BigInteger d = BigInteger.valueOf(163);
        for (int number : numbers) {
            d = d.multiply(BigInteger.valueOf(31)).add(BigInteger.valueOf(number));
        }
        return d;
    }

    private static long wrapped(List<Integer> numbers) {
        return exact(numbers).longValue();
    }
}
