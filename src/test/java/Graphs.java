/** Graphs on which several tests work, and all that an object tells, as one text. */
final class Graphs {
    static final int[] EDGES = {-2, -1, 0, 1, 2, 3, 4, 5, 6, 39, 40, 41, 399, 400, 401,
        Integer.MAX_VALUE, Integer.MIN_VALUE, 1 << 29, (1 << 29) - 1};

    private Graphs() {
    }

    /** So many nodes, and a weight for each three numbers. */
    static CommunityLevels of(int n, int... weights) {
        CommunityLevels x = new CommunityLevels();
        x.nodes(n);
        for (int i = 0; i + 2 < weights.length; i += 3) {
            x.weigh(weights[i], weights[i + 1], weights[i + 2]);
        }
        return x;
    }

    /** Two triangles with an edge between them. */
    static CommunityLevels triangles() {
        return of(6, 0, 1, 1, 1, 2, 1, 0, 2, 1, 3, 4, 1, 4, 5, 1, 3, 5, 1, 2, 3, 1);
    }

    /** A star with a loop: on it node 2 leaves its community again for one of its own. */
    static CommunityLevels leaver(int n) {
        return of(n, 0, 1, 1, 1, 2, 4, 1, 3, 4, 2, 2, 1);
    }

    static CommunityLevels ring(int n) {
        CommunityLevels x = of(n);
        for (int i = 0; i < n; i++) {
            x.weigh(i, (i + 1) % n, 1);
        }
        return x;
    }

    /** Each node would rather be with the next one, so pass by pass all of them go on by one. */
    static CommunityLevels risingPath() {
        CommunityLevels x = of(40);
        for (int i = 0; i < 39; i++) {
            x.weigh(i, i + 1, 1000 + 100 * i);
        }
        return x;
    }

    static String all(CommunityLevels x) {
        StringBuilder text = new StringBuilder();
        int n = x.about(0, 0);
        text.append("N ").append(n).append(" M ").append(x.about(1, 0));
        for (int i = 0; i < n; i++) {
            text.append(" d").append(x.about(2, i)).append(" l").append(x.about(3, i)).append(" c").append(x.about(4, i));
            for (int c = 0; c < n; c++) {
                text.append(" g").append(x.gain(i, c));
            }
        }
        text.append(" own ").append(x.own()).append(' ').append(ran(x));
        return text.toString();
    }

    private static String ran(CommunityLevels x) {
        StringBuilder text = new StringBuilder();
        text.append("levels ").append(x.levels());
        for (int l = 0; l < x.levels(); l++) {
            text.append(" u").append(x.modularity(l));
            for (int what = 0; what < 4; what++) {
                text.append(' ').append(x.level(l, what));
            }
            for (int i = 0; i < x.about(0, 0); i++) {
                text.append(" c").append(x.community(l, i));
            }
        }
        text.append(" moves ").append(x.moves());
        for (int k = 0; k < Math.min(400, x.moves()); k++) {
            text.append(' ').append(moveText(x, k));
        }
        return text.toString();
    }

    static String moveText(CommunityLevels x, int k) {
        return x.move(k, 0) + "/" + x.move(k, 1) + ":" + x.move(k, 2) + ">" + x.move(k, 3) + "+" + x.gained(k);
    }
}
