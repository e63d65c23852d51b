import java.util.ArrayList;
import java.util.List;
import java.util.TreeMap;
import java.util.TreeSet;

/**
 * The document's words once more, as slowly and plainly as they stand: U is always summed from
 * its definition, a gain is the difference of two U, and every sum is checked for overflow.
 */
final class PlainModel {
    private int n;
    private long[][] weight;
    private int[] own;
    private List<Level> made;
    private List<long[]> told;
    private int allMoves;

    /** How often moves went into a new community, into one whose number is not the node's own, and ties. */
    int fresh;
    int freshElsewhere;
    int ties;

    private static final class Level {
        int[] community;
        long u;
        int[] facts;
    }

    PlainModel() {
        start(1);
    }

    private void start(int count) {
        n = count;
        weight = new long[count][count];
        own = alone(count);
        forget();
    }

    private void forget() {
        made = new ArrayList<>();
        told = new ArrayList<>();
        allMoves = 0;
    }

    private static int[] alone(int count) {
        int[] part = new int[count];
        for (int i = 0; i < count; i++) {
            part[i] = i;
        }
        return part;
    }

    private static void index(boolean fine) {
        if (!fine) {
            throw new IndexOutOfBoundsException();
        }
    }

    private static void argument(boolean fine) {
        if (!fine) {
            throw new IllegalArgumentException();
        }
    }

    private boolean isNode(int i) {
        return 0 <= i && i < n;
    }

    private boolean isLevel(int level) {
        return 0 <= level && level < made.size();
    }

    long nodes(int count) {
        argument(1 <= count && count <= 40);
        start(count);
        return 0;
    }

    long weigh(int a, int b, int w) {
        index(isNode(a) && isNode(b));
        argument(w >= 0 && total(weight) - weight[a][b] + w < 536870912L);
        long before = weight[a][b];
        weight[a][b] = w;
        weight[b][a] = w;
        forget();
        return before;
    }

    long run() {
        forget();
        long[][] graph = weight;
        int[] inLevel = alone(n);
        boolean more = true;
        while (more) {
            int[] part = alone(graph.length);
            int passes = 0;
            int movesBefore = allMoves;
            boolean moved = true;
            while (moved) {
                moved = pass(graph, part);
                passes++;
            }
            TreeMap<Integer, Integer> numbers = new TreeMap<>();
            for (int c : part) {
                numbers.putIfAbsent(c, numbers.size());
            }
            Level level = new Level();
            level.u = u(graph, part);
            level.facts = new int[] {graph.length, numbers.size(), passes, allMoves - movesBefore};
            level.community = new int[n];
            for (int i = 0; i < n; i++) {
                inLevel[i] = numbers.get(part[inLevel[i]]);
                level.community[i] = inLevel[i];
            }
            made.add(level);
            more = allMoves > movesBefore;
            graph = contracted(graph, part, numbers);
        }
        return made.size();
    }

    private static long[][] contracted(long[][] graph, int[] part, TreeMap<Integer, Integer> numbers) {
        int k = numbers.size();
        long[][] next = new long[k][k];
        for (int a = 0; a < graph.length; a++) {
            for (int b = 0; b <= a; b++) {
                int p = numbers.get(part[a]);
                int q = numbers.get(part[b]);
                next[p][q] += graph[a][b];
                next[q][p] = next[p][q];
            }
        }
        return next;
    }

    private boolean pass(long[][] graph, int[] part) {
        boolean moved = false;
        for (int node = 0; node < graph.length; node++) {
            TreeSet<Integer> taken = new TreeSet<>();
            TreeSet<Integer> near = new TreeSet<>();
            boolean isAlone = true;
            for (int i = 0; i < graph.length; i++) {
                taken.add(part[i]);
                if (i != node && part[i] == part[node]) {
                    isAlone = false;
                }
                if (part[i] != part[node] && graph[node][i] != 0) {
                    near.add(part[i]);
                }
            }
            List<Integer> choices = new ArrayList<>(near);
            if (!isAlone) {
                int free = 0;
                while (taken.contains(free)) {
                    free++;
                }
                choices.add(free);
            }
            moved |= moveToBest(graph, part, node, choices, near.size());
        }
        return moved;
    }

    private boolean moveToBest(long[][] graph, int[] part, int node, List<Integer> choices, int nearOnes) {
        int best = -1;
        long most = Long.MIN_VALUE;
        boolean tie = false;
        for (int k = 0; k < choices.size(); k++) {
            long gain = difference(graph, part, node, choices.get(k));
            tie = gain == most || (tie && gain < most);
            if (gain > most) {
                most = gain;
                best = k;
            }
        }
        if (best < 0 || most <= 0) {
            return false;
        }
        int into = choices.get(best);
        ties += tie ? 1 : 0;
        fresh += best >= nearOnes ? 1 : 0;
        freshElsewhere += best >= nearOnes && into != node ? 1 : 0;
        if (told.size() < 400) {
            told.add(new long[] {made.size(), node, part[node], into, most});
        }
        allMoves++;
        part[node] = into;
        return true;
    }

    private static long difference(long[][] graph, int[] part, int node, int into) {
        int[] after = part.clone();
        after[node] = into;
        return Math.subtractExact(u(graph, after), u(graph, part));
    }

    private static long total(long[][] graph) {
        long m = 0;
        for (int a = 0; a < graph.length; a++) {
            for (int b = a; b < graph.length; b++) {
                m += graph[a][b];
            }
        }
        return m;
    }

    private static long degree(long[][] graph, int node) {
        long d = graph[node][node];
        for (long w : graph[node]) {
            d += w;
        }
        return d;
    }

    private static long u(long[][] graph, int[] part) {
        long m = total(graph);
        long u = 0;
        for (int c = 0; c < 41; c++) {
            long inside = 0;
            long degrees = 0;
            for (int a = 0; a < graph.length; a++) {
                if (part[a] != c) {
                    continue;
                }
                degrees += degree(graph, a);
                for (int b = a; b < graph.length; b++) {
                    inside += part[b] == c ? graph[a][b] : 0;
                }
            }
            long plus = Math.multiplyExact(4 * m, inside);
            long minus = Math.multiplyExact(degrees, degrees);
            u = Math.addExact(u, Math.subtractExact(plus, minus));
        }
        return u;
    }

    long levels() {
        return made.size();
    }

    long level(int level, int what) {
        index(isLevel(level) && 0 <= what && what <= 3);
        return made.get(level).facts[what];
    }

    long community(int level, int node) {
        index(isLevel(level) && isNode(node));
        return made.get(level).community[node];
    }

    long modularity(int level) {
        index(isLevel(level));
        return made.get(level).u;
    }

    long moves() {
        return allMoves;
    }

    long move(int k, int what) {
        index(0 <= k && k < told.size() && 0 <= what && what <= 3);
        return told.get(k)[what];
    }

    long gained(int k) {
        index(0 <= k && k < told.size());
        return told.get(k)[4];
    }

    long place(int node, int c) {
        index(isNode(node) && isNode(c));
        long before = own[node];
        own[node] = c;
        return before;
    }

    long take(int level) {
        index(isLevel(level));
        own = made.get(level).community.clone();
        return 0;
    }

    long own() {
        return u(weight, own);
    }

    long gain(int node, int c) {
        index(isNode(node) && isNode(c));
        return difference(weight, own, node, c);
    }

    long about(int what, int i) {
        index(0 <= what && what <= 4 && (what < 2 || isNode(i)));
        switch (what) {
            case 0: return n;
            case 1: return total(weight);
            case 2: return degree(weight, i);
            case 3: return weight[i][i];
            default: return own[i];
        }
    }
}
