import java.util.Arrays;

/**
 * Communities of a weighted graph, found level by level by exact modularity, and partitions of
 * one's own on the same graph. The document (DOC.md) says what each call does.
 */
public final class CommunityLevels {
    public static final int NONE = -1;

    private static final int MOST_NODES = 40;
    private static final int MOST_TOLD = 400;
    private static final int FACTS = 4;
    private static final int TOTAL_END = 1 << 29;

    /** Every move raises U, so passes end; a search for many of them found 178, far below this. */
    private static final int MOST_PASSES = 1000000;

    private final Graph told;
    private final Groups mine;
    private final LevelTable table;
    private final MoveLog log;

    /** The graph and the communities of the level that is being made. */
    private final Graph graph;
    private final Groups groups;

    /** For each node of level 0 the node of the level being made in which it is. */
    private final int[] within;

    public CommunityLevels() {
        told = new Graph();
        mine = new Groups();
        table = new LevelTable();
        log = new MoveLog();
        graph = new Graph();
        groups = new Groups();
        within = new int[MOST_NODES];
    }

    public void nodes(int n) throws IllegalArgumentException {
        if (n < 1 || n > MOST_NODES) {
            throw new IllegalArgumentException("there are 1 to 40 nodes");
        }
        told.empty(n);
        mine.separate(n);
        forgetRun();
    }

    public int weigh(int a, int b, int w) throws IndexOutOfBoundsException, IllegalArgumentException {
        requireNode(a);
        requireNode(b);
        if (w < 0) {
            throw new IllegalArgumentException("a weight is not below 0");
        }
        int before = told.between(a, b);
        if ((long) told.total - before + w >= TOTAL_END) {
            throw new IllegalArgumentException("the sum of all weights is below 2^29");
        }
        told.add(a, b, w - before);
        forgetRun();
        return before;
    }

    public int run() {
        // The same graph gives the same levels, so those that stand are not made again.
        if (table.size == 0) {
            makeLevels();
        }
        return table.size;
    }

    public int levels() {
        return table.size;
    }

    public int level(int level, int what) throws IndexOutOfBoundsException {
        requireLevel(level);
        requireFact(what);
        return table.facts[level * FACTS + what];
    }

    public int community(int level, int node) throws IndexOutOfBoundsException {
        requireLevel(level);
        requireNode(node);
        return table.homes[level * MOST_NODES + node];
    }

    public long modularity(int level) throws IndexOutOfBoundsException {
        requireLevel(level);
        return table.scores[level];
    }

    public int moves() {
        return log.size;
    }

    public int move(int k, int what) throws IndexOutOfBoundsException {
        requireTold(k);
        requireFact(what);
        return log.facts[k * FACTS + what];
    }

    public long gained(int k) throws IndexOutOfBoundsException {
        requireTold(k);
        return log.gains[k];
    }

    public int place(int node, int c) throws IndexOutOfBoundsException {
        requireNode(node);
        requireCommunity(c);
        int before = mine.home[node];
        mine.home[node] = c;
        return before;
    }

    public void take(int level) throws IndexOutOfBoundsException {
        requireLevel(level);
        System.arraycopy(table.homes, level * MOST_NODES, mine.home, 0, told.size);
    }

    public long own() {
        mine.tally(told);
        return mine.score(told);
    }

    public long gain(int node, int c) throws IndexOutOfBoundsException {
        requireNode(node);
        requireCommunity(c);
        mine.tally(told);
        mine.tie(told, node);
        return mine.gainInto(told, node, c);
    }

    public int about(int what, int i) throws IndexOutOfBoundsException {
        if (what == 0) {
            return told.size;
        }
        if (what == 1) {
            return told.total;
        }
        if (what < 0 || what > 4) {
            throw new IndexOutOfBoundsException("what is 0 .. 4");
        }
        requireNode(i);
        if (what == 2) {
            return told.degree[i];
        }
        return what == 3 ? told.between(i, i) : mine.home[i];
    }

    private void requireNode(int node) {
        if (node < 0 || node >= told.size) {
            throw new IndexOutOfBoundsException("there is no such node");
        }
    }

    /** A partition of one's own has as many numbers for its communities as there are nodes. */
    private void requireCommunity(int c) {
        if (c < 0 || c >= told.size) {
            throw new IndexOutOfBoundsException("a community's number is 0 .. N - 1");
        }
    }

    private void requireLevel(int level) {
        if (level < 0 || level >= table.size) {
            throw new IndexOutOfBoundsException("there is no such level");
        }
    }

    private void requireTold(int k) {
        if (k < 0 || k >= log.size || k >= MOST_TOLD) {
            throw new IndexOutOfBoundsException("there is no such move among the first 400");
        }
    }

    private void requireFact(int what) {
        if (what < 0 || what >= FACTS) {
            throw new IndexOutOfBoundsException("what is 0 .. 3");
        }
    }

    private void forgetRun() {
        table.size = 0;
        log.size = 0;
    }

    private void makeLevels() {
        for (int i = 0; i < told.size; i++) {
            within[i] = i;
        }
        graph.contract(told, within, told.size);
        boolean moved = true;
        // A level with a move ends with fewer communities than nodes: there are at most N levels.
        for (int at = 0; moved && at < MOST_NODES; at++) {
            moved = makeLevel(at);
        }
    }

    /** Leaves the next level's graph behind; answers whether there was a move. */
    private boolean makeLevel(int at) {
        groups.separate(graph.size);
        groups.tally(graph);
        int movesBefore = log.size;
        int passes = 0;
        boolean moved = true;
        while (moved && passes < MOST_PASSES) {
            moved = makePass(at);
            passes++;
        }
        int made = log.size - movesBefore;
        long score = groups.score(graph);
        int communities = groups.renumber(graph.size);
        for (int i = 0; i < told.size; i++) {
            within[i] = groups.home[within[i]];
        }
        table.append(within, score, graph.size, communities, passes, made);
        graph.contract(told, within, communities);
        return made > 0;
    }

    /** Answers whether there was a move. */
    private boolean makePass(int at) {
        boolean moved = false;
        for (int node = 0; node < graph.size; node++) {
            groups.tie(graph, node);
            int into = groups.choose(graph, node);
            if (into != NONE) {
                long gain = groups.gainInto(graph, node, into);
                log.append(at, node, groups.home[node], into, gain);
                groups.shift(graph, node, into);
                moved = true;
            }
        }
        return moved;
    }

    /** Nodes and their weights; each two nodes' weight stands in both their rows. */
    private static final class Graph {
        final int[] weight;
        final int[] degree;
        int size;
        int total;

        Graph() {
            weight = new int[MOST_NODES * MOST_NODES];
            degree = new int[MOST_NODES];
            size = 1;
            total = 0;
        }

        void empty(int n) {
            Arrays.fill(weight, 0);
            Arrays.fill(degree, 0);
            size = n;
            total = 0;
        }

        int between(int a, int b) {
            return weight[a * MOST_NODES + b];
        }

        void add(int a, int b, int more) {
            weight[a * MOST_NODES + b] += more;
            if (a != b) {
                weight[b * MOST_NODES + a] += more;
            }
            // A loop counts twice in its node's degree: both lines are the same node's then.
            degree[a] += more;
            degree[b] += more;
            total += more;
        }

        /** Becomes the graph whose n nodes are those into which the nodes of another one go. */
        void contract(Graph other, int[] into, int n) {
            empty(n);
            for (int a = 0; a < other.size; a++) {
                for (int b = a; b < other.size; b++) {
                    int w = other.between(a, b);
                    if (w != 0) {
                        add(into[a], into[b], w);
                    }
                }
            }
        }
    }

    /** A partition of a graph's nodes, with the sums by which it is reckoned. */
    private static final class Groups {
        final int[] home;
        final int[] count;
        final int[] degree;

        /** The weights of the node that was tied last with each community's other nodes. */
        final int[] link;
        final int[] number;

        Groups() {
            home = new int[MOST_NODES];
            count = new int[MOST_NODES];
            degree = new int[MOST_NODES];
            link = new int[MOST_NODES];
            number = new int[MOST_NODES];
        }

        void separate(int n) {
            for (int i = 0; i < n; i++) {
                home[i] = i;
            }
        }

        void tally(Graph g) {
            Arrays.fill(count, 0);
            Arrays.fill(degree, 0);
            for (int i = 0; i < g.size; i++) {
                count[home[i]]++;
                degree[home[i]] += g.degree[i];
            }
        }

        void tie(Graph g, int node) {
            Arrays.fill(link, 0);
            for (int i = 0; i < g.size; i++) {
                if (i != node) {
                    link[home[i]] += g.between(node, i);
                }
            }
        }

        /** U of this partition, which is tallied. */
        long score(Graph g) {
            long inside = 0;
            for (int a = 0; a < g.size; a++) {
                for (int b = a; b < g.size; b++) {
                    if (home[a] == home[b]) {
                        inside += g.between(a, b);
                    }
                }
            }
            long u = 4L * g.total * inside;
            for (int c = 0; c < g.size; c++) {
                u -= (long) degree[c] * degree[c];
            }
            return u;
        }

        /** The gain of a move of the tied node, by the few terms of U that it changes. */
        long gainInto(Graph g, int node, int c) {
            int from = home[node];
            if (c == from) {
                return 0;
            }
            long d = g.degree[node];
            long left = degree[from] - d;
            long links = link[c] - link[from];
            return 4L * g.total * links - 2 * d * (degree[c] - left);
        }

        /** The community into which the tied node moves, or NONE. */
        int choose(Graph g, int node) {
            int from = home[node];
            int best = NONE;
            long most = 0;
            for (int c = 0; c < g.size; c++) {
                long gain = c != from && link[c] > 0 ? gainInto(g, node, c) : 0;
                if (gain > most) {
                    best = c;
                    most = gain;
                }
            }
            int free = count[from] > 1 ? leastFree(g.size) : NONE;
            if (free != NONE && gainInto(g, node, free) > most) {
                best = free;
            }
            return best;
        }

        int leastFree(int n) {
            for (int c = 0; c < n; c++) {
                if (count[c] == 0) {
                    return c;
                }
            }
            return NONE;
        }

        void shift(Graph g, int node, int into) {
            int from = home[node];
            count[from]--;
            degree[from] -= g.degree[node];
            count[into]++;
            degree[into] += g.degree[node];
            home[node] = into;
        }

        /** Numbers the communities by their least nodes; answers how many there are. */
        int renumber(int n) {
            Arrays.fill(number, NONE);
            int next = 0;
            for (int i = 0; i < n; i++) {
                int old = home[i];
                if (number[old] == NONE) {
                    number[old] = next;
                    next++;
                }
                home[i] = number[old];
            }
            return next;
        }
    }

    /** What is told of each level at its end. */
    private static final class LevelTable {
        final int[] facts;
        final int[] homes;
        final long[] scores;
        int size;

        LevelTable() {
            facts = new int[MOST_NODES * FACTS];
            homes = new int[MOST_NODES * MOST_NODES];
            scores = new long[MOST_NODES];
            size = 0;
        }

        void append(int[] home, long score, int nodeCount, int communities, int passes, int made) {
            if (size < MOST_NODES) {
                System.arraycopy(home, 0, homes, size * MOST_NODES, MOST_NODES);
                scores[size] = score;
                facts[size * FACTS] = nodeCount;
                facts[size * FACTS + 1] = communities;
                facts[size * FACTS + 2] = passes;
                facts[size * FACTS + 3] = made;
                size++;
            }
        }
    }

    /** All moves are counted here, and the first of them are told. */
    private static final class MoveLog {
        final int[] facts;
        final long[] gains;
        int size;

        MoveLog() {
            facts = new int[MOST_TOLD * FACTS];
            gains = new long[MOST_TOLD];
            size = 0;
        }

        void append(int at, int node, int from, int into, long gain) {
            if (size < MOST_TOLD) {
                facts[size * FACTS] = at;
                facts[size * FACTS + 1] = node;
                facts[size * FACTS + 2] = from;
                facts[size * FACTS + 3] = into;
                gains[size] = gain;
            }
            size++;
        }
    }
}
