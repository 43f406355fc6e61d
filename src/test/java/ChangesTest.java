/** Promises 24 to 30: disputes, changes, ways and the checksum. */
public final class ChangesTest {
    public static void main(String[] args) {
        promise24();
        promise25();
        promise26();
        promise27();
        promise28And29();
        promise30();
        Check.end("ChangesTest");
    }

    private static void promise24() {
        DebateSolver chain = Check.plain(4, 0, 1, 1, 2, 2, 3);
        Check.isTrue("nothing attacks 0", chain.wins(0));
        Check.isFalse("0 attacks 1, and nothing answers", chain.wins(1));
        Check.isTrue("0 answers 1", chain.wins(2));
        Check.isFalse("1 attacks 2, but 0 answers that", chain.wins(3));
        DebateSolver pair = Check.plain(2, 0, 1, 1, 0);
        Check.isFalse("0 must not move again", pair.wins(0));
        DebateSolver ring = Check.plain(3, 0, 1, 1, 2, 2, 0);
        // 0, 2, 1, then 0 attacks 1: the second player may move with it, and then 2 is used.
        Check.isFalse("a ring: the second one can come back", ring.wins(0));
        DebateSolver self = Check.plain(1, 0, 0);
        Check.isFalse("it attacks itself", self.wins(0));
        self.put(0, false);
        Check.isFalse("out of the debate", self.wins(0));
        chain.put(0, false);
        Check.isTrue("its attacker is out", chain.wins(1));
        Check.isFalse("what is out", chain.wins(0));
        Check.noIndex("wins(-1)", chain, () -> chain.wins(-1));
        Check.noIndex("wins(4)", chain, () -> chain.wins(4));
    }

    private static void promise25() {
        DebateSolver x = Check.plain(4, 0, 1, 1, 2, 3, 2);
        Check.same("in the grounded set", 0, x.silence(0));
        Check.same("one attacker", 1, x.silence(1));
        // 2 is attacked by 1, which 0 attacks, and by 3.
        Check.same("one of two attackers", 8, x.silence(2));
        x.attack(0, 1, false);
        Check.same("both", 10, x.silence(2));

        // 0 attacks 1, which attacks 3; 2 attacks 3 as well, and 1 attacks 2.
        DebateSolver y = Check.plain(4, 1, 0, 0, 1, 1, 3, 2, 1, 1, 2);
        Check.same("1 is the only attacker of 3", 2, y.silence(3));
        DebateSolver tie = Check.plain(5, 4, 3, 3, 4, 4, 2, 3, 2, 1, 2, 2, 1);
        // 2 is attacked by 1, 3 and 4: nothing less helps than all of them.
        Check.same("all three", 26, tie.silence(2));
        DebateSolver choice = Check.plain(4, 0, 1, 1, 2, 2, 3, 3, 0);
        Check.same("in a ring of four its attacker, or the one opposite", 2, choice.silence(2));
        Check.same("the smaller number of 8 and 2", 2, choice.silence(0));
        DebateSolver crowd = Check.plain(12);
        for (int k = 0; k < 11; k++) {
            crowd.attack(k, 11, true);
        }
        Check.same("all the others", 2047, crowd.silence(11));
        DebateSolver self = Check.plain(2, 0, 0, 1, 0);
        Check.same("it attacks itself", -1, self.silence(0));
        self.attack(0, 0, false);
        Check.same("the other one", 2, self.silence(0));
        self.put(1, false);
        Check.same("which is out", 0, self.silence(0));
        Check.same("what is out", -1, self.silence(1));
        Check.noIndex("silence(-1)", self, () -> self.silence(-1));
        Check.noIndex("silence(2)", self, () -> self.silence(2));
        Check.same("the debate stays as it is", 1, self.debate());
    }

    private static void promise26() {
        DebateSolver x = Check.debate(2, 5, 9);
        Check.attacks(x, 0, 1, 1, 2, 2, 0);
        // 0 on 1 works from tolerance 3, 1 on 2 from 4, 2 on 0 always.
        Check.same("1 is not attacked up to 2, and at 3 defended by 2", 3, x.tolerable(1));
        Check.same("2 is not attacked up to 3", 3, x.tolerable(2));
        Check.same("0 never", -1, x.tolerable(0));
        Check.same("the tolerance is as it was", 9, x.setTolerance(0));
        Check.same("which does not count", 3, x.tolerable(2));
        x.attack(2, 0, false);
        Check.same("no attack: the greatest one", 9, x.tolerable(0));
        Check.same("0 defends it", 9, x.tolerable(2));
        x.put(1, false);
        Check.same("what is out", -1, x.tolerable(1));
        Check.noIndex("tolerable(-1)", x, () -> x.tolerable(-1));
        Check.noIndex("tolerable(3)", x, () -> x.tolerable(3));

        DebateSolver close = Check.debate(3, 4);
        close.attack(0, 1, true);
        Check.same("a difference of 1 needs a tolerance of 0", 0, close.tolerable(1));

        DebateSolver y = Check.debate(1, 9, 9);
        Check.attacks(y, 1, 2, 0, 1);
        Check.same("1 on 2 always works, and 0 on 1 from 8 on", 9, y.tolerable(2));
        Check.same("0 on 1 does not work up to 7", 7, y.tolerable(1));
    }

    private static void promise27() {
        DebateSolver x = Check.plain(5, 0, 1, 1, 2, 2, 1, 3, 3);
        Check.isTrue("one attack", x.leads(0, 1));
        Check.isTrue("two attacks", x.leads(0, 2));
        Check.isFalse("no way back", x.leads(1, 0));
        Check.isFalse("not to itself", x.leads(0, 0));
        Check.isTrue("around", x.leads(1, 1));
        Check.isTrue("on itself", x.leads(3, 3));
        Check.isFalse("nothing", x.leads(4, 3));
        x.put(1, false);
        Check.isFalse("over what is out", x.leads(0, 2));
        Check.isFalse("to what is out", x.leads(0, 1));
        x.put(1, true);
        x.setWeight(2, 9);
        x.setTolerance(7);
        Check.isFalse("by attacks that work", x.leads(0, 2));
        Check.noIndex("leads(-1, 0)", x, () -> x.leads(-1, 0));
        Check.noIndex("leads(5, 0)", x, () -> x.leads(5, 0));
        Check.noIndex("leads(0, -1)", x, () -> x.leads(0, -1));
        Check.noIndex("leads(0, 5)", x, () -> x.leads(0, 5));
        DebateSolver ring = Check.plain(12, 0, 1, 1, 2, 2, 3, 3, 4, 4, 5, 5, 6, 6, 7, 7, 8, 8, 9, 9, 10, 10, 11, 11, 0);
        Check.isTrue("twelve attacks", ring.leads(7, 7));
        Check.isTrue("eleven attacks", ring.leads(7, 6));
    }

    private static void promise28And29() {
        DebateSolver pair = Check.plain(3, 0, 1, 1, 0, 1, 2);
        Check.same("a pair: even", 3, pair.even());
        Check.same("a pair: odd", 0, pair.odd());
        DebateSolver ring = Check.plain(4, 0, 1, 1, 2, 2, 0, 2, 3);
        Check.same("a ring of three: odd", 7, ring.odd());
        Check.same("twice around: even", 7, ring.even());
        DebateSolver self = Check.plain(4, 0, 0, 1, 2, 2, 1, 0, 1);
        Check.same("on itself: odd", 1, self.odd());
        Check.same("on itself twice: even", 7, self.even());
        self.attack(2, 0, true);
        Check.same("over the one that attacks itself: odd", 7, self.odd());
        self.put(0, false);
        Check.same("which is out: odd", 0, self.odd());
        Check.same("which is out: even", 6, self.even());
        DebateSolver long11 = Check.plain(11, 0, 1, 1, 2, 2, 3, 3, 4, 4, 5, 5, 6, 6, 7, 7, 8, 8, 9, 9, 10, 10, 0);
        Check.same("a ring of eleven: odd", 2047, long11.odd());
        Check.same("a ring of eleven twice: even", 2047, long11.even());
        DebateSolver empty = new DebateSolver();
        Check.same("no arguments: even", 0, empty.even());
        Check.same("no arguments: odd", 0, empty.odd());
    }

    private static void promise30() {
        DebateSolver x = Check.debate(3, 5);
        Check.attacks(x, 0, 1, 1, 0);
        x.setTolerance(1);
        // 0 is too weak for 1: only 1 on 0 works, and {1} is the one position of each kind.
        Check.same("digest", sum(2, 3, 1, 2, 5, 1, 0, 1, 1, 2, 1, 2, 1, 2, 1, 2, 1, 2, 1, 2, 1, 2), x.digest());
        x.setTolerance(2);
        Check.same("both work", sum(2, 3, 1, 2, 5, 1, 1, 2, 3, 0, 1, 2, 1, 0, 2, 1, 2, 2, 1, 2, 2, 1, 2, 2, 1, 2, 1, 0),
                x.digest());
        x.put(0, false);
        Check.same("0 is out", sum(2, 3, 0, 0, 5, 1, 0, 2, 1, 2, 1, 2, 1, 2, 1, 2, 1, 2, 1, 2, 1, 2), x.digest());
        x.attack(1, 1, true);
        Check.same("no stable one", sum(2, 3, 0, 0, 5, 1, 2, 2, 1, 0, 1, 0, 1, 0, 0, 1, 0, 1, 0, 1, 0), x.digest());
        Check.same("the same again", x.digest(), x.digest());
        Check.same("no arguments", sum(0, 9, 1, 0, 1, 0, 1, 0, 1, 0, 1, 0, 1, 0, 1, 0), new DebateSolver().digest());
    }

    private static long sum(int... numbers) {
        long d = 163;
        for (int x : numbers) {
            d = d * 31 + x;
        }
        return d;
    }
}
