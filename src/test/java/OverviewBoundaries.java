import java.util.ArrayList;
import java.util.List;
import java.util.Random;

/** What the document's first lines say of the whole: held on graphs of several kinds. */
final class OverviewBoundaries {
    private static final String WHOLE = "Nodes with weighted edges fall into communities, level by level: a node moves where it"
        + " raises the modularity most, exactly, till none can; then communities are nodes of the next level; partitions of one's"
        + " own are reckoned as well.";
    private static final String CALLS = "An object is used for at most 512 calls after it has been made; what later calls answer"
        + " is free.";

    /** A graph with its weights at hand, three numbers for each. */
    private record Sample(String name, int n, int... weights) {
        CommunityLevels ran() {
            CommunityLevels x = Graphs.of(n, weights);
            x.run();
            return x;
        }
    }

    private final Sentences document;
    private final List<Sample> samples = new ArrayList<>();

    OverviewBoundaries(Sentences document) {
        this.document = document;
        samples.add(new Sample("one node", 1));
        samples.add(new Sample("one loop", 1, 0, 0, Graphs.MOST_M));
        samples.add(new Sample("one weight", 2, 0, 1, Graphs.MOST_M));
        samples.add(new Sample("a leaver", 4, 0, 1, 1, 1, 2, 4, 1, 3, 4, 2, 2, 1));
        samples.add(new Sample("a late leaver", 7, 0, 0, 5, 0, 4, 5, 1, 2, 3, 1, 4, 5, 1, 6, 1, 3, 5, 2, 3, 6, 2, 4, 5, 5, 4, 6, 3));
        for (int seed = 0; seed < 40; seed++) {
            samples.add(random(seed));
        }
    }

    /** Few nodes, so that all gains can be asked for; of some the weights are about 2^22. */
    private static Sample random(int seed) {
        Random random = new Random(seed);
        int n = 2 + random.nextInt(17);
        int most = seed % 2 == 0 ? 6 : 1 << 22;
        int[] weights = new int[3 * (2 * n + random.nextInt(2 * n))];
        for (int i = 0; i < weights.length; i += 3) {
            weights[i] = random.nextInt(n);
            weights[i + 1] = random.nextInt(n);
            weights[i + 2] = random.nextInt(most);
        }
        return new Sample("random " + seed, n, weights);
    }

    /** Node 0 gains 2 more with 2 than with 1, of some 2^57: no double tells them apart. */
    private void mostByTheLeastDifference() {
        document.hold("What it is", WHOLE);
        CommunityLevels x = Graphs.of(3, 0, 1, 178956968, 0, 2, 178956967, 1, 1, 89478484, 2, 2, 89478483);
        long less = 4 * 536870902L * 178956968L - 2 * 357913935L * 357913936L;
        Checks.same("gain(0, 1)", x.gain(0, 1), less);
        Checks.same("gain(0, 2)", x.gain(0, 2), less + 2);
        x.run();
        Checks.same("move 0", Told.moveText(x, 0), "0/0:0>2+" + (less + 2));
    }

    /** With w = 2^28 - 1 the degrees are 2 w - 1 and 2 w + 1, M is 2 w: the gain is 2, of 8 w w less 8 w w - 2. */
    private void theLeastRiseOfGreatNumbers() {
        document.hold("What it is", WHOLE);
        CommunityLevels x = Graphs.of(2, 0, 1, 268435455, 0, 0, 134217727, 1, 1, 134217728);
        Checks.same("own() at first", x.own(), -2);
        Checks.same("run()", x.run(), 2);
        Told.movesAre(x, "0/0:0>1+2");
        Checks.same("modularity(0)", x.modularity(0), 0);
    }

    private void noRiseOfGreatNumbers() {
        document.hold("What it is", WHOLE);
        CommunityLevels x = Graphs.of(2, 0, 1, 268435454, 0, 0, 134217727, 1, 1, 134217727);
        Checks.same("gain(0, 1)", x.gain(0, 1), 0);
        Checks.same("run()", x.run(), 1);
        Told.movesAre(x);
    }

    /** In a community without a weight with it a node gains at most what it gains by itself. */
    private void tillNoneCan() {
        document.hold("What it is", WHOLE);
        for (Sample sample : samples) {
            CommunityLevels x = sample.ran();
            x.take(0);
            for (int i = 0; i < sample.n * sample.n; i++) {
                int node = i / sample.n;
                int c = i % sample.n;
                Checks.same(sample.name + ": is gain(" + node + ", " + c + ") above 0", x.gain(node, c) > 0 ? 1 : 0, 0);
            }
        }
    }

    private void eachMoveRaisesUByItsGain() {
        document.hold("What it is", WHOLE);
        for (Sample sample : samples) {
            CommunityLevels x = sample.ran();
            long u = x.own();
            int k = 0;
            for (int level = 0; level < x.levels(); level++) {
                for (; k < x.moves() && x.move(k, 0) == level; k++) {
                    Checks.same(sample.name + ": is gained(" + k + ") above 0", x.gained(k) > 0 ? 1 : 0, 1);
                    u += x.gained(k);
                }
                Checks.same(sample.name + ": modularity(" + level + ")", x.modularity(level), u);
            }
            Checks.same(sample.name + ": moves()", x.moves(), k);
        }
    }

    private void whatIsTogetherStaysTogether() {
        document.hold("What it is", WHOLE);
        for (Sample sample : samples) {
            CommunityLevels x = sample.ran();
            for (int level = 1; level < x.levels(); level++) {
                int[] earlier = communities(x, level - 1, sample.n);
                int[] now = communities(x, level, sample.n);
                for (int i = 0; i < sample.n; i++) {
                    int least = 0;
                    while (earlier[least] != earlier[i]) {
                        least++;
                    }
                    Checks.same(sample.name + ": community(" + level + ", " + i + ")", now[i], now[least]);
                }
            }
        }
    }

    /** The same is told by an object that has the next level's graph as its own. */
    private void communitiesAreNodesOfTheNextLevel() {
        document.hold("What it is", WHOLE);
        for (Sample sample : samples) {
            CommunityLevels x = sample.ran();
            if (x.levels() > 1) {
                CommunityLevels next = nextOf(sample, x);
                Checks.same(sample.name + ": run() of the next graph", next.run(), x.levels() - 1);
                for (int level = 1; level < x.levels(); level++) {
                    sameLevel(sample, x, next, level);
                }
                sameMoves(sample.name, x, next);
            }
        }
    }

    private static CommunityLevels nextOf(Sample sample, CommunityLevels x) {
        int[][] told = new int[sample.n][sample.n];
        for (int i = 0; i < sample.weights.length; i += 3) {
            int a = Math.min(sample.weights[i], sample.weights[i + 1]);
            int b = Math.max(sample.weights[i], sample.weights[i + 1]);
            told[a][b] = sample.weights[i + 2];
        }
        int[] into = communities(x, 0, sample.n);
        int[][] sums = new int[x.level(0, 1)][x.level(0, 1)];
        for (int a = 0; a < sample.n; a++) {
            for (int b = a; b < sample.n; b++) {
                sums[Math.min(into[a], into[b])][Math.max(into[a], into[b])] += told[a][b];
            }
        }
        CommunityLevels next = Graphs.of(sums.length);
        for (int p = 0; p < sums.length; p++) {
            for (int q = p; q < sums.length; q++) {
                next.weigh(p, q, sums[p][q]);
            }
        }
        return next;
    }

    private static int[] communities(CommunityLevels x, int level, int n) {
        int[] all = new int[n];
        for (int i = 0; i < n; i++) {
            all[i] = x.community(level, i);
        }
        return all;
    }

    private static void sameLevel(Sample sample, CommunityLevels x, CommunityLevels next, int level) {
        String of = sample.name + ": ";
        for (int what = 0; what < 4; what++) {
            Checks.same(of + "level(" + level + ", " + what + ")", x.level(level, what), next.level(level - 1, what));
        }
        Checks.same(of + "modularity(" + level + ")", x.modularity(level), next.modularity(level - 1));
        for (int i = 0; i < sample.n; i++) {
            Checks.same(of + "community(" + level + ", " + i + ")", x.community(level, i),
                next.community(level - 1, x.community(0, i)));
        }
    }

    private static void sameMoves(String name, CommunityLevels x, CommunityLevels next) {
        int before = x.level(0, 3);
        Checks.same(name + ": moves()", x.moves(), before + next.moves());
        for (int k = 0; k < next.moves(); k++) {
            Checks.same(name + ": level of move " + (before + k), x.move(before + k, 0), next.move(k, 0) + 1);
            for (int what = 1; what < 4; what++) {
                Checks.same(name + ": move(" + (before + k) + ", " + what + ")", x.move(before + k, what), next.move(k, what));
            }
            Checks.same(name + ": gained(" + (before + k) + ")", x.gained(before + k), next.gained(k));
        }
    }

    /** The two triangles are not run, run, and no more run: one's own partition is the same. */
    private void onesOwnPartitionNeedsNoRun() {
        document.hold("What it is", WHOLE);
        CommunityLevels x = Graphs.triangles();
        x.place(1, 0);
        Checks.same("not run: own()", x.own(), -14);
        Checks.same("not run: gain(2, 0)", x.gain(2, 0), 32);
        x.run();
        Checks.same("run: own()", x.own(), -14);
        Checks.same("run: gain(2, 0)", x.gain(2, 0), 32);
        x.weigh(0, 1, 1);
        Checks.same("no more run: own()", x.own(), -14);
        Checks.same("no more run: gain(2, 0)", x.gain(2, 0), 32);
    }

    /** The dearest calls there are, and the 512th of them is answered as the first one. */
    private void call512() {
        document.hold("What it is", CALLS);
        CommunityLevels x = Graphs.rising(40, 1000, 100);
        int calls = 40;
        for (; calls < 510; calls += 2) {
            x.weigh(38, 39, 4800);
            x.run();
        }
        Checks.same("call 511: run()", x.run(), 3);
        Checks.same("call 512: moves()", x.moves(), 612);
        Checks.same("so many calls before these", calls, 510);
    }

    void all() {
        mostByTheLeastDifference();
        theLeastRiseOfGreatNumbers();
        noRiseOfGreatNumbers();
        tillNoneCan();
        eachMoveRaisesUByItsGain();
        whatIsTogetherStaysTogether();
        communitiesAreNodesOfTheNextLevel();
        onesOwnPartitionNeedsNoRun();
        call512();
    }
}
