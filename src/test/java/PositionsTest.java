import java.util.List;

/** Promises 17 to 23: positions, acceptance and rounds. */
public final class PositionsTest {
    private static final int COMPLETE = 0;
    private static final int GROUNDED = 1;
    private static final int PREFERRED = 2;
    private static final int STABLE = 3;
    private static final int STAGE = 4;
    private static final int SEMISTABLE = 5;
    private static final int IDEAL = 6;

    public static void main(String[] args) {
        choice();
        triangle();
        kindsThatDiffer();
        idealBeyondGrounded();
        changesAreSeen();
        many();
        promise17();
        promise18();
        promise19();
        promise20();
        promise21();
        promise22();
        promise23();
        Check.end("PositionsTest");
    }

    private static void list(String what, DebateSolver x, int kind, Integer... due) {
        Check.same(what, List.of(due), Check.list(x, kind));
    }

    /** 0 and 1 attack each other; 1 attacks 2. */
    private static DebateSolver twoSides() {
        return Check.plain(3, 0, 1, 1, 0, 1, 2);
    }

    private static void choice() {
        DebateSolver x = twoSides();
        list("two sides: complete", x, COMPLETE, 0, 2, 5);
        list("two sides: grounded", x, GROUNDED, 0);
        list("two sides: preferred", x, PREFERRED, 2, 5);
        list("two sides: stable", x, STABLE, 2, 5);
        list("two sides: stage", x, STAGE, 2, 5);
        list("two sides: semistable", x, SEMISTABLE, 2, 5);
        list("two sides: ideal", x, IDEAL, 0);
    }

    private static void triangle() {
        DebateSolver x = Check.plain(3, 0, 1, 1, 2, 2, 0);
        list("triangle: complete", x, COMPLETE, 0);
        list("triangle: grounded", x, GROUNDED, 0);
        list("triangle: preferred", x, PREFERRED, 0);
        list("triangle: stable", x, STABLE);
        list("triangle: stage", x, STAGE, 1, 2, 4);
        list("triangle: semistable", x, SEMISTABLE, 0);
        list("triangle: ideal", x, IDEAL, 0);
    }

    /** 0 and 1 attack each other, 1 attacks 2, and 2, 3, 4 attack one another in a ring. */
    private static void kindsThatDiffer() {
        DebateSolver x = Check.plain(5, 0, 1, 1, 0, 1, 2, 2, 3, 3, 4, 4, 2);
        list("ring: complete", x, COMPLETE, 0, 1, 10);
        list("ring: preferred", x, PREFERRED, 1, 10);
        list("ring: stable", x, STABLE, 10);
        list("ring: stage", x, STAGE, 10);
        list("ring: semistable, one of the preferred ones", x, SEMISTABLE, 10);

        // 0, 1 and 2 attack one another in a ring, and 1 attacks itself.
        DebateSolver y = Check.plain(3, 1, 1, 0, 1, 2, 0, 1, 2);
        list("no defence: preferred", y, PREFERRED, 0);
        list("no defence: stage needs none", y, STAGE, 1, 4);
        list("no defence: semistable", y, SEMISTABLE, 0);
        list("no defence: stable", y, STABLE);

        // 1 and 2 attack themselves, and nothing else happens: 0 stands alone.
        DebateSolver z = Check.plain(3, 1, 1, 2, 2);
        list("two that attack themselves: stage", z, STAGE, 1);
        list("two that attack themselves: stable", z, STABLE);
    }

    /** 0 and 1 attack each other; both attack 2, which attacks 3. */
    private static void idealBeyondGrounded() {
        DebateSolver x = Check.plain(4, 0, 1, 1, 0, 0, 2, 1, 2, 2, 3);
        list("floating: preferred", x, PREFERRED, 9, 10);
        Check.same("floating: 3 is in all preferred ones", 8, x.accepted(PREFERRED, true));
        list("floating: but is not defended without them", x, IDEAL, 0);
        list("floating: grounded", x, GROUNDED, 0);

        // 0 and 1 attack each other, and 1 attacks itself: just 0 can be held.
        DebateSolver y = Check.plain(2, 0, 1, 1, 0, 1, 1);
        list("ideal has more than grounded: complete", y, COMPLETE, 0, 1);
        list("ideal has more than grounded: grounded", y, GROUNDED, 0);
        list("ideal has more than grounded: ideal", y, IDEAL, 1);
    }

    private static void changesAreSeen() {
        DebateSolver x = twoSides();
        list("before", x, PREFERRED, 2, 5);
        x.put(1, false);
        list("put out", x, PREFERRED, 5);
        list("put out: stable", x, STABLE, 5);
        x.put(1, true);
        list("put in", x, PREFERRED, 2, 5);
        x.attack(1, 0, false);
        list("removed", x, PREFERRED, 5);
        x.attack(1, 0, true);
        x.setWeight(0, 9);
        list("another weight", x, PREFERRED, 2, 5);
        x.setTolerance(3);
        list("another tolerance", x, PREFERRED, 5);
        x.setWeight(0, 4);
        list("a weight that is tolerated", x, PREFERRED, 2, 5);
        x.addArgument(1);
        list("one more", x, PREFERRED, 10, 13);
    }

    private static void many() {
        DebateSolver pairs = Check.plain(12, 0, 1, 1, 0, 2, 3, 3, 2, 4, 5, 5, 4, 6, 7, 7, 6, 8, 9, 9, 8, 10, 11, 11, 10);
        Check.same("pairs: complete", 729, pairs.positions(COMPLETE));
        Check.same("pairs: preferred", 64, pairs.positions(PREFERRED));
        Check.same("pairs: the first", 0b010101010101, pairs.position(PREFERRED, 0));
        Check.same("pairs: the last", 0b101010101010, pairs.position(PREFERRED, 63));
        DebateSolver rings = Check.plain(12, 0, 1, 1, 2, 2, 0, 3, 4, 4, 5, 5, 3, 6, 7, 7, 8, 8, 6, 9, 10, 10, 11, 11, 9);
        Check.same("rings: stage", 81, rings.positions(STAGE));
        Check.same("rings: the last", 0b100100100100, rings.position(STAGE, 80));
        DebateSolver calm = Check.plain(12);
        for (int kind = 0; kind < 7; kind++) {
            list("calm: kind " + kind, calm, kind, 4095);
        }
    }

    private static void promise17() {
        DebateSolver x = twoSides();
        Check.same("complete ones", 3, x.positions(COMPLETE));
        Check.same("grounded ones", 1, x.positions(GROUNDED));
        Check.same("ideal ones", 1, x.positions(IDEAL));
        Check.noIndex("positions(-1)", x, () -> x.positions(-1));
        Check.noIndex("positions(7)", x, () -> x.positions(7));
        Check.noIndex("positions(MIN)", x, () -> x.positions(Integer.MIN_VALUE));
    }

    private static void promise18() {
        DebateSolver x = twoSides();
        Check.same("position(0, 2)", 5, x.position(COMPLETE, 2));
        Check.noIndex("position(0, 3)", x, () -> x.position(COMPLETE, 3));
        Check.noIndex("position(0, -1)", x, () -> x.position(COMPLETE, -1));
        Check.noIndex("position(1, 1)", x, () -> x.position(GROUNDED, 1));
        Check.noIndex("position(7, 0)", x, () -> x.position(7, 0));
        Check.noIndex("position(-1, 0)", x, () -> x.position(-1, 0));
        Check.noIndex("position(0, MAX)", x, () -> x.position(COMPLETE, Integer.MAX_VALUE));
        DebateSolver none = Check.plain(1, 0, 0);
        Check.noIndex("no stable one", none, () -> none.position(STABLE, 0));
        none.put(0, false);
        Check.same("the empty one of the empty debate", 0, none.position(STABLE, 0));
    }

    private static void promise19() {
        DebateSolver x = twoSides();
        Check.same("by all preferred", 0, x.accepted(PREFERRED, true));
        Check.same("by some preferred", 7, x.accepted(PREFERRED, false));
        x.put(0, false);
        Check.same("by all, 0 is out", 2, x.accepted(PREFERRED, true));
        DebateSolver none = Check.plain(4, 0, 0);
        none.put(2, false);
        Check.same("by all of none, just those in the debate", 11, none.accepted(STABLE, true));
        Check.same("by some of none", 0, none.accepted(STABLE, false));
        Check.same("by all grounded", 10, none.accepted(GROUNDED, true));
        Check.noIndex("accepted(-1)", x, () -> x.accepted(-1, true));
        Check.noIndex("accepted(7)", x, () -> x.accepted(7, false));
    }

    private static void promise20() {
        DebateSolver x = twoSides();
        Check.same("1 + 1 is more than 1", 5, x.heaviest(PREFERRED));
        x.setWeight(1, 2);
        Check.same("as heavy: the smallest number", 2, x.heaviest(PREFERRED));
        x.setWeight(1, 3);
        Check.same("3 is more than 1 + 1", 2, x.heaviest(COMPLETE));
        x.setWeight(2, 9);
        Check.same("1 + 9", 5, x.heaviest(COMPLETE));
        DebateSolver none = Check.plain(3, 0, 1, 1, 2, 2, 0);
        Check.same("none", -1, none.heaviest(STABLE));
        Check.same("just the empty one", 0, none.heaviest(COMPLETE));
        Check.noIndex("heaviest(-1)", x, () -> x.heaviest(-1));
        Check.noIndex("heaviest(7)", x, () -> x.heaviest(7));
    }

    private static void promise21() {
        DebateSolver x = twoSides();
        Check.same("one of three", 1.0 / 3, x.support(0));
        Check.same("one of three", 1.0 / 3, x.support(1));
        Check.same("one of three", 1.0 / 3, x.support(2));
        x.attack(1, 0, false);
        Check.same("all", 1.0, x.support(0));
        Check.same("none", 0.0, x.support(1));
        x.put(0, false);
        Check.same("what is out", 0.0, x.support(0));
        Check.noIndex("support(-1)", x, () -> x.support(-1));
        Check.noIndex("support(3)", x, () -> x.support(3));
    }

    private static void promise22() {
        // 0 attacks 1, which attacks 2 and 4, which attacks 3; 5 attacks itself.
        DebateSolver x = Check.plain(6, 0, 1, 1, 2, 1, 4, 4, 3, 5, 5);
        Check.same("nothing attacks 0", 1, x.round(0));
        Check.same("1 is attacked by 0", 0, x.round(1));
        Check.same("2 is defended by 0", 2, x.round(2));
        Check.same("4 is defended by 0", 2, x.round(4));
        Check.same("3 is attacked by 4", 0, x.round(3));
        Check.same("5 attacks itself", 0, x.round(5));
        x.put(0, false);
        Check.same("what is out", 0, x.round(0));
        Check.same("nothing attacks 1 now", 1, x.round(1));
        Check.same("1 defends 3", 2, x.round(3));
        Check.noIndex("round(-1)", x, () -> x.round(-1));
        Check.noIndex("round(6)", x, () -> x.round(6));
    }

    private static void promise23() {
        DebateSolver x = Check.plain(12, 0, 1, 1, 2, 2, 3, 3, 4, 4, 5, 5, 6, 6, 7, 7, 8, 8, 9, 9, 10, 10, 11);
        Check.same("every second one has a round", 6, x.rounds());
        Check.same("the last round", 6, x.round(10));
        x.attack(11, 0, true);
        Check.same("a ring has none", 0, x.rounds());
        x.put(5, false);
        Check.same("6, 8, 10, 0, 2 and 4", 6, x.rounds());
        x.put(7, false);
        Check.same("6 and 8; 10, 0, 2, 4", 5, x.rounds());
        Check.same("one round", 1, Check.plain(3).rounds());
    }
}
