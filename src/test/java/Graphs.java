/** Graphs on which several tests work. */
final class Graphs {
    static final int[] EDGES = {-2, -1, 0, 1, 2, 3, 4, 5, 6, 39, 40, 41, 399, 400, 401,
        Integer.MAX_VALUE, Integer.MIN_VALUE, 1 << 29, (1 << 29) - 1};

    /** Far outside all numbers; in int, four or forty times some of them is 0 again. */
    static final int[] FAR = {Integer.MIN_VALUE, Integer.MAX_VALUE, 1 << 28, 1 << 29, 1 << 30, -(1 << 29), -(1 << 30)};

    /** The greatest sum of all weights. */
    static final int MOST_M = 536870911;

    private Graphs() {
    }

    /** So many nodes, and a weight for each three numbers. */
    static CommunityLevels of(int n, int... weights) {
        CommunityLevels x = new CommunityLevels();
        x.nodes(n);
        for (int i = 0; i + 2 < weights.length; i += 3) {
            x.weigh(weights[i], weights[i + 1], weights[i + 2]);
        }
        return x;
    }

    /** Two triangles with an edge between them. */
    static CommunityLevels triangles() {
        return of(6, 0, 1, 1, 1, 2, 1, 0, 2, 1, 3, 4, 1, 4, 5, 1, 3, 5, 1, 2, 3, 1);
    }

    /** A star with a loop: on it node 2 leaves its community again for one of its own. */
    static CommunityLevels leaver(int n) {
        return of(n, 0, 1, 1, 1, 2, 4, 1, 3, 4, 2, 2, 1);
    }

    static CommunityLevels ring(int n) {
        CommunityLevels x = of(n);
        for (int i = 0; i < n; i++) {
            x.weigh(i, (i + 1) % n, 1);
        }
        return x;
    }

    /** Each node would rather be with the next one, so pass by pass all of them go on by one. */
    static CommunityLevels rising(int n, int base, int step) {
        CommunityLevels x = of(n);
        for (int i = 0; i < n - 1; i++) {
            x.weigh(i, i + 1, base + step * i);
        }
        return x;
    }

    /** Node 0 has a weight of 1 with each other: all go into one community, 39 moves of 40 nodes. */
    static CommunityLevels star(int n) {
        CommunityLevels x = of(n);
        for (int i = 1; i < n; i++) {
            x.weigh(0, i, 1);
        }
        return x;
    }

    /** A loop of the same weight for each of 40 nodes: no U is greater. */
    static CommunityLevels loops(int w) {
        CommunityLevels x = of(40);
        for (int i = 0; i < 40; i++) {
            x.weigh(i, i, w);
        }
        return x;
    }

    /**
     * Of 32 nodes each two have a weight, the greater the sooner they are in the same half of a
     * half: pairs, fours, eights and so on, one level for each. 497 calls.
     */
    static CommunityLevels halves() {
        int[] weights = {320, 272, 252, 244, 241};
        CommunityLevels x = of(32);
        for (int a = 0; a < 32; a++) {
            for (int b = a + 1; b < 32; b++) {
                x.weigh(a, b, weights[31 - Integer.numberOfLeadingZeros(a ^ b)]);
            }
        }
        return x;
    }
}
