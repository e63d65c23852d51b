import java.util.Random;

/** Random runs of calls (always the same ones), answered by the class and by the plain model. */
public final class ModelTest {
    private static final int MOST_CALLS = 512;

    private final Random random;
    private final CommunityLevels x = new CommunityLevels();
    private final PlainModel plain = new PlainModel();
    private final String name;
    private int calls = 0;

    private static int fresh = 0;
    private static int freshElsewhere = 0;
    private static int ties = 0;
    private static int long400 = 0;
    private static long mostLevels = 0;

    private ModelTest(int seed) {
        random = new Random(seed);
        name = "random run " + seed;
    }

    private void both(String call, Checks.Call real, Checks.Call due) {
        if (calls < MOST_CALLS) {
            calls++;
            Checks.same(name + ", call " + calls + ": " + call, Checks.outcome(real), Checks.outcome(due));
        }
    }

    private void nodes(int n) {
        both("nodes(" + n + ")", Checks.of(() -> x.nodes(n)), () -> plain.nodes(n));
    }

    private void weigh(int a, int b, int w) {
        both("weigh(" + a + ", " + b + ", " + w + ")", () -> x.weigh(a, b, w), () -> plain.weigh(a, b, w));
    }

    private void run() {
        both("run()", x::run, plain::run);
        mostLevels = Math.max(mostLevels, plain.levels());
        long400 += plain.moves() > 400 ? 1 : 0;
    }

    /** Mostly a number that fits, now and then one at an edge or past it. */
    private int some(int bound) {
        if (random.nextInt(12) == 0) {
            return Graphs.EDGES[random.nextInt(Graphs.EDGES.length)];
        }
        return random.nextInt(Math.max(1, bound));
    }

    private void ask() {
        int n = (int) plain.about(0, 0);
        int levels = (int) plain.levels();
        int moves = (int) plain.moves();
        int a = some(n);
        int b = some(n);
        int level = some(levels);
        int k = some(moves);
        int what = some(4);
        int fact = some(5);
        switch (random.nextInt(13)) {
            case 0: both("levels()", x::levels, plain::levels); break;
            case 1: both("level(" + level + ", " + what + ")", () -> x.level(level, what), () -> plain.level(level, what)); break;
            case 2: both("community(" + level + ", " + a + ")", () -> x.community(level, a), () -> plain.community(level, a)); break;
            case 3: both("modularity(" + level + ")", () -> x.modularity(level), () -> plain.modularity(level)); break;
            case 4: both("moves()", x::moves, plain::moves); break;
            case 5: case 6: both("move(" + k + ", " + what + ")", () -> x.move(k, what), () -> plain.move(k, what)); break;
            case 7: both("gained(" + k + ")", () -> x.gained(k), () -> plain.gained(k)); break;
            case 8: both("place(" + a + ", " + b + ")", () -> x.place(a, b), () -> plain.place(a, b)); break;
            case 9: both("take(" + level + ")", Checks.of(() -> x.take(level)), () -> plain.take(level)); break;
            case 10: both("own()", x::own, plain::own); break;
            case 11: both("gain(" + a + ", " + b + ")", () -> x.gain(a, b), () -> plain.gain(a, b)); break;
            default: both("about(" + fact + ", " + a + ")", () -> x.about(fact, a), () -> plain.about(fact, a)); break;
        }
    }

    /** A graph of a random kind: few or many edges, equal or wide weights, loops or none. */
    private void build(int mostNodes) {
        int n = 1 + random.nextInt(mostNodes);
        nodes(n);
        int edges = random.nextInt(Math.min(250, 1 + 3 * n));
        int bits = 1 + random.nextInt(29);
        boolean loops = random.nextBoolean();
        for (int e = 0; e < edges; e++) {
            int a = some(n);
            int b = some(n);
            if (loops || a != b) {
                weigh(a, b, random.nextInt(1 << bits));
            }
        }
    }

    private void mixed() {
        while (calls < MOST_CALLS) {
            build(10);
            for (int round = 0; round < 3; round++) {
                run();
                for (int i = 0; i < 30; i++) {
                    ask();
                }
                weigh(some(6), some(6), some(50));
                if (random.nextInt(4) == 0) {
                    nodes(some(45));
                }
                ask();
            }
        }
        count();
    }

    private void large() {
        build(40);
        runAndAsk();
    }

    /** A path, each edge heavier than the one before: several hundred moves. */
    private void rising() {
        nodes(40);
        int base = 50 + random.nextInt(50);
        int step = 1 + random.nextInt(30);
        for (int i = 0; i < 39; i++) {
            weigh(i, i + 1, base + step * i);
        }
        runAndAsk();
    }

    /** A ring of equal weights: many ties, and several levels. */
    private void ring() {
        int n = 30 + random.nextInt(11);
        nodes(n);
        for (int i = 0; i < n; i++) {
            weigh(i, (i + 1) % n, 1);
        }
        runAndAsk();
    }

    private void runAndAsk() {
        run();
        while (calls < MOST_CALLS) {
            ask();
        }
        count();
    }

    private void count() {
        fresh += plain.fresh;
        freshElsewhere += plain.freshElsewhere;
        ties += plain.ties;
    }

    public static void main(String[] args) {
        for (int seed = 0; seed < 1000; seed++) {
            new ModelTest(seed).mixed();
        }
        for (int seed = 1000; seed < 1060; seed++) {
            new ModelTest(seed).large();
        }
        for (int seed = 1060; seed < 1066; seed++) {
            new ModelTest(seed).rising();
        }
        for (int seed = 1066; seed < 1072; seed++) {
            new ModelTest(seed).ring();
        }
        System.out.println("moves into a new community " + fresh + ", with another number than the node's " + freshElsewhere
            + ", ties " + ties + ", runs of more than 400 moves " + long400 + ", most levels " + mostLevels);
        boolean reached = fresh > 0 && freshElsewhere > 0 && ties > 0 && long400 > 0 && mostLevels > 3;
        Checks.same("the random runs reach what they are for", reached ? 1 : 0, 1);
        Checks.end();
    }
}
