import java.util.List;
import java.util.Random;

/** Random debates, and every answer about them compared with the document's definitions. */
public final class OracleTest {
    /** A new object is given up to 169 calls to bring it where the old one stood; 512 are promised. */
    private static final int CALLS_BEFORE_A_NEW_OBJECT = 340;

    private final Random random;
    private final Oracle oracle = new Oracle();
    private final String name;
    private DebateSolver solver = new DebateSolver();
    private int calls = 0;

    private OracleTest(long seed) {
        random = new Random(seed);
        name = "debate " + seed;
    }

    public static void main(String[] args) {
        for (int seed = 0; seed < 900; seed++) {
            new OracleTest(seed).play(1 + seed % 6, 4);
        }
        for (int seed = 1000; seed < 1040; seed++) {
            new OracleTest(seed).play(7 + seed % 3, 2);
        }
        for (int seed = 2000; seed < 2006; seed++) {
            new OracleTest(seed).play(12, 1);
        }
        for (int size = 0; size <= 3; size++) {
            for (int graph = 0; graph < 1 << size * size; graph++) {
                new OracleTest(graph).compareSmall(size, graph);
            }
        }
        Check.end("OracleTest");
    }

    private DebateSolver solver() {
        calls++;
        if (calls > CALLS_BEFORE_A_NEW_OBJECT) {
            solver = oracle.rebuilt();
            calls = 0;
        }
        return solver;
    }

    private void play(int size, int times) {
        for (int k = 0; k < size; k++) {
            addArgument(k);
        }
        int density = 1 + random.nextInt(5);
        for (int from = 0; from < size; from++) {
            for (int to = 0; to < size; to++) {
                boolean isUnlikely = from == to && random.nextInt(3) > 0;
                if (!isUnlikely && random.nextInt(density + 1) == 0) {
                    attack(from, to, true);
                }
            }
        }
        compare();
        for (int time = 0; time < times; time++) {
            int changes = 1 + random.nextInt(3);
            for (int k = 0; k < changes; k++) {
                change(size);
            }
            compare();
        }
    }

    /** Each bit tells whether there is an attack: so all small debates can be gone through. */
    private void compareSmall(int size, int graph) {
        for (int k = 0; k < size; k++) {
            addArgument(k);
        }
        for (int k = 0; k < size * size; k++) {
            if ((graph >> k & 1) == 1) {
                attack(k / size, k % size, true);
            }
        }
        compare();
    }

    private void addArgument(int number) {
        int weight = 1 + random.nextInt(9);
        Check.same(name + " addArgument", number, solver().addArgument(weight));
        oracle.weights.add(weight);
        oracle.isIn[number] = true;
    }

    private void attack(int from, int to, boolean isOn) {
        boolean before = oracle.isMade[from][to];
        Check.isTrue(name + " attack", solver().attack(from, to, isOn) == before);
        oracle.isMade[from][to] = isOn;
    }

    private void change(int size) {
        int argument = random.nextInt(size);
        switch (random.nextInt(5)) {
            case 0:
                int weight = 1 + random.nextInt(9);
                int weightBefore = solver().setWeight(argument, weight);
                Check.same(name + " setWeight", oracle.weights.set(argument, weight), weightBefore);
                break;
            case 1:
                boolean isIn = random.nextInt(3) == 0;
                Check.isTrue(name + " put", solver().put(argument, isIn) == oracle.isIn[argument]);
                oracle.isIn[argument] = isIn;
                break;
            case 2:
                int tolerance = random.nextInt(10);
                Check.same(name + " setTolerance", oracle.tolerance, solver().setTolerance(tolerance));
                oracle.tolerance = tolerance;
                break;
            default:
                attack(argument, random.nextInt(size), random.nextBoolean());
                break;
        }
    }

    private void compare() {
        compareWhole();
        for (int k = 0; k < oracle.count(); k++) {
            compareArgument(k);
        }
        compareSets();
        List<List<Integer>> all = oracle.allPositions();
        for (int kind = 0; kind < 7; kind++) {
            List<Integer> due = all.get(kind);
            String what = name + " kind " + kind;
            comparePositions(what, kind, due);
            Check.same(what + " accepted by all", oracle.accepted(due, true), solver().accepted(kind, true));
            Check.same(what + " accepted by some", oracle.accepted(due, false), solver().accepted(kind, false));
            Check.same(what + " heaviest", oracle.heaviest(due), solver().heaviest(kind));
        }
        List<Integer> complete = all.get(0);
        for (int k = 0; k < oracle.count(); k++) {
            int having = 0;
            for (int set : complete) {
                having += Oracle.has(set, k) ? 1 : 0;
            }
            Check.same(name + " support " + k, (double) having / complete.size(), solver().support(k));
        }
    }

    private void comparePositions(String what, int kind, List<Integer> due) {
        int size = solver().positions(kind);
        Check.same(what + " positions", due.size(), size);
        for (int index = 0; index < size && index < due.size(); index++) {
            Check.same(what + " position " + index, due.get(index), solver().position(kind, index));
        }
    }

    private void compareWhole() {
        Check.same(name + " argumentCount", oracle.count(), solver().argumentCount());
        Check.same(name + " debate", oracle.debate(), solver().debate());
        Check.same(name + " attackCount", oracle.attackCount(), solver().attackCount());
        Check.same(name + " rounds", oracle.allRounds().size(), solver().rounds());
        Check.same(name + " even", oracle.returning(true), solver().even());
        Check.same(name + " odd", oracle.returning(false), solver().odd());
        Check.same(name + " digest", oracle.digest(), solver().digest());
    }

    private void compareArgument(int k) {
        String what = name + " argument " + k;
        Check.same(what + " attackers", oracle.attackers(k), solver().attackers(k));
        Check.same(what + " attacked", oracle.attacked(k), solver().attacked(k));
        Check.same(what + " round", oracle.round(k), solver().round(k));
        Check.isTrue(what + " wins", oracle.wins(k) == solver().wins(k));
        Check.same(what + " silence", oracle.silence(k), solver().silence(k));
        Check.same(what + " tolerable", oracle.tolerable(k), solver().tolerable(k));
        for (int other = 0; other < oracle.count(); other++) {
            Check.isTrue(what + " leads to " + other,
                    oracle.leads(k, other, true, true) == solver().leads(k, other));
        }
    }

    private void compareSets() {
        int sets = 1 << oracle.count();
        int step = sets > 64 ? 7 : 1;
        for (int set = 0; set < sets; set += step) {
            String what = name + " set " + set;
            Check.isTrue(what + " isFree", oracle.isFree(set) == solver().isFree(set));
            Check.same(what + " defended", oracle.defended(set), solver().defended(set));
            Check.isTrue(what + " isAdmissible", oracle.isAdmissible(set) == solver().isAdmissible(set));
            Check.same(what + " repair", oracle.repair(set), solver().repair(set));
            for (int k = 0; k < oracle.count(); k++) {
                Check.same(what + " label " + k, oracle.label(k, set), solver().label(k, set));
            }
        }
    }
}
