/** Boundary cases of promises 1 to 3: a new object, nodes, weigh. */
final class SettingBoundaries {
    private static final int MOST = Graphs.MOST_M;

    private static final String NEW = "One NODE; not run.";
    private static final String SO_MANY = "So many NODES, all WEIGHTS 0; one's own PARTITION has each NODE by itself.";
    private static final String NOT_RUN = "Not run.";
    private static final String NOT_1_TO_40 = "IllegalArgumentException: they are not 1 .. 40.";
    private static final String BECOMES_W = "The WEIGHT of two NODES, or a LOOP, becomes w.";
    private static final String NO_MORE = "What was run is no more.";
    private static final String WHAT_IT_WAS = "Answers what it was.";
    private static final String NO_NODE = "IndexOutOfBoundsException: there is no such NODE.";
    private static final String NO_WEIGHT = "IllegalArgumentException: w is below 0, or M would be 2^29 or more.";

    private final Sentences document;

    SettingBoundaries(Sentences document) {
        this.document = document;
    }

    private static void isNotRun(CommunityLevels x) {
        Checks.same("levels()", x.levels(), 0);
        Checks.same("moves()", x.moves(), 0);
        Checks.noIndex("level(0, 0)", () -> x.level(0, 0));
        Checks.noIndex("community(0, 0)", () -> x.community(0, 0));
        Checks.noIndex("modularity(0)", () -> x.modularity(0));
        Checks.noIndex("move(0, 0)", () -> x.move(0, 0));
        Checks.noIndex("gained(0)", () -> x.gained(0));
        Checks.noIndex("take(0)", Checks.of(() -> x.take(0)));
    }

    private void newHasOneNode() {
        document.hold("Promise 1", NEW);
        CommunityLevels x = new CommunityLevels();
        Checks.same("N", x.about(0, 0), 1);
        Checks.same("M", x.about(1, 0), 0);
        Checks.same("degree, loop, community", x.about(2, 0) + x.about(3, 0) + x.about(4, 0), 0);
        Checks.noIndex("a second node", () -> x.about(2, 1));
        Checks.noIndex("a second community", () -> x.place(0, 1));
    }

    private void newIsNotRun() {
        document.hold("Promise 1", NEW);
        isNotRun(new CommunityLevels());
    }

    private void fewestNodes() {
        document.hold("Promise 2", SO_MANY);
        CommunityLevels x = Graphs.loops(9);
        x.nodes(1);
        Checks.same("N", x.about(0, 0), 1);
        Checks.same("M", x.about(1, 0), 0);
        Checks.same("weigh(0, 0, 0)", x.weigh(0, 0, 0), 0);
        Checks.same("one's own partition", Told.own(x), "0");
        Checks.noIndex("weigh(0, 1, 0)", () -> x.weigh(0, 1, 0));
    }

    private void mostNodes() {
        document.hold("Promise 2", SO_MANY);
        CommunityLevels x = new CommunityLevels();
        x.nodes(40);
        Checks.same("N", x.about(0, 0), 40);
        Checks.same("M", x.about(1, 0), 0);
        for (int i = 0; i < 40; i++) {
            Checks.same("own community of " + i, x.about(4, i), i);
        }
    }

    /** Nodes that were out of sight for a while come back without weights. */
    private void fewerAndThenMoreNodes() {
        document.hold("Promise 2", SO_MANY);
        CommunityLevels x = Graphs.star(40);
        x.weigh(39, 39, 8);
        x.nodes(1);
        x.nodes(40);
        Checks.same("M", x.about(1, 0), 0);
        for (int i = 0; i < 40; i++) {
            Checks.same("degree of " + i, x.about(2, i), 0);
            Checks.same("weigh(0, " + i + ", 0)", x.weigh(0, i, 0), 0);
        }
        Checks.same("weigh(39, 39, 0)", x.weigh(39, 39, 0), 0);
    }

    private void asManyNodesAsBefore() {
        document.hold("Promise 2", SO_MANY);
        CommunityLevels x = Graphs.triangles();
        x.place(0, 5);
        x.place(5, 0);
        x.nodes(6);
        Checks.same("one's own partition", Told.own(x), "0 1 2 3 4 5");
        Checks.same("all", Told.all(x), Told.all(Graphs.of(6)));
        Checks.same("weights", Told.weightsTakenOut(x), Told.weightsTakenOut(Graphs.of(6)));
    }

    private void nodesAfterARun() {
        document.hold("Promise 2", NOT_RUN);
        CommunityLevels x = Graphs.triangles();
        x.run();
        x.nodes(6);
        isNotRun(x);
        x.run();
        x.nodes(1);
        isNotRun(x);
    }

    private void tooFewNodes() {
        document.hold("Promise 2", NOT_1_TO_40);
        CommunityLevels x = new CommunityLevels();
        for (int n : new int[] {0, -1, -40, Integer.MIN_VALUE, Integer.MIN_VALUE + 1}) {
            Checks.noArgument("nodes(" + n + ")", Checks.of(() -> x.nodes(n)));
        }
        Checks.same("N", x.about(0, 0), 1);
    }

    private void tooManyNodes() {
        document.hold("Promise 2", NOT_1_TO_40);
        CommunityLevels x = Graphs.of(40);
        for (int n : new int[] {41, 42, 256 + 1, 65536 + 1, Integer.MAX_VALUE}) {
            Checks.noArgument("nodes(" + n + ")", Checks.of(() -> x.nodes(n)));
        }
        Checks.same("N", x.about(0, 0), 40);
    }

    private void leastWeight() {
        document.hold("Promise 3", BECOMES_W);
        CommunityLevels x = Graphs.of(2, 0, 1, 6, 1, 1, 4);
        x.weigh(1, 0, 0);
        Checks.same("M without the weight", x.about(1, 0), 4);
        x.weigh(1, 1, 0);
        Checks.same("M without the loop", x.about(1, 0), 0);
        Checks.same("the loop", x.about(3, 1), 0);
    }

    private void greatestWeight() {
        document.hold("Promise 3", BECOMES_W);
        CommunityLevels x = Graphs.of(40, 38, 39, MOST);
        Checks.same("M", x.about(1, 0), MOST);
        x.weigh(38, 39, 0);
        x.weigh(39, 39, MOST);
        Checks.same("M, a loop", x.about(1, 0), MOST);
        Checks.same("the loop", x.about(3, 39), MOST);
    }

    /** It becomes w; w is not added to it. */
    private void theSameWeightAgain() {
        document.hold("Promise 3", BECOMES_W);
        CommunityLevels x = Graphs.of(2, 0, 1, 6, 0, 1, 6, 1, 0, 6, 1, 1, 4, 1, 1, 4);
        Checks.same("M", x.about(1, 0), 10);
        Checks.same("degree of 0", x.about(2, 0), 6);
        Checks.same("degree of 1", x.about(2, 1), 14);
    }

    private void aWeighThatChangesNoWeightEndsARun() {
        document.hold("Promise 3", NO_MORE);
        CommunityLevels x = Graphs.triangles();
        x.run();
        x.weigh(0, 1, 1);
        isNotRun(x);
        x.run();
        x.weigh(0, 5, 0);
        isNotRun(x);
    }

    private void aWeighThatIsRefusedEndsNoRun() {
        document.hold("Promise 3", NO_MORE);
        CommunityLevels x = Graphs.triangles();
        x.run();
        Checks.noArgument("weigh(0, 1, -1)", () -> x.weigh(0, 1, -1));
        Checks.noIndex("weigh(0, 6, 1)", () -> x.weigh(0, 6, 1));
        Checks.same("levels()", x.levels(), 2);
        Checks.same("moves()", x.moves(), 5);
    }

    private void whatItWasAtItsLeastAndGreatest() {
        document.hold("Promise 3", WHAT_IT_WAS);
        CommunityLevels x = Graphs.of(2);
        Checks.same("nothing yet", x.weigh(0, 1, MOST), 0);
        Checks.same("the greatest", x.weigh(1, 0, 0), MOST);
        Checks.same("0 again", x.weigh(0, 1, 0), 0);
        Checks.same("no loop yet", x.weigh(1, 1, MOST), 0);
        Checks.same("the greatest loop", x.weigh(1, 1, 1), MOST);
    }

    private void whatItWasAfterARefusedWeigh() {
        document.hold("Promise 3", WHAT_IT_WAS);
        CommunityLevels x = Graphs.of(2, 0, 1, 3);
        Checks.noArgument("weigh(0, 1, 2^29)", () -> x.weigh(0, 1, 1 << 29));
        Checks.same("it is still 3", x.weigh(0, 1, 4), 3);
    }

    private void noNodeBelow() {
        document.hold("Promise 3", NO_NODE);
        CommunityLevels x = Graphs.triangles();
        for (int node : new int[] {-1, -6, -40}) {
            noSuchNode(x, node);
        }
    }

    private void noNodeAbove() {
        document.hold("Promise 3", NO_NODE);
        noSuchNode(new CommunityLevels(), 1);
        noSuchNode(Graphs.triangles(), 6);
        noSuchNode(Graphs.triangles(), 39);
        noSuchNode(Graphs.of(40), 40);
        CommunityLevels fewer = Graphs.of(40);
        fewer.nodes(39);
        noSuchNode(fewer, 39);
    }

    private void noNodeFarOff() {
        document.hold("Promise 3", NO_NODE);
        for (int node : Graphs.FAR) {
            noSuchNode(Graphs.of(40), node);
        }
    }

    private static void noSuchNode(CommunityLevels x, int node) {
        Checks.noIndex("weigh(" + node + ", 0, 1)", () -> x.weigh(node, 0, 1));
        Checks.noIndex("weigh(0, " + node + ", 1)", () -> x.weigh(0, node, 1));
        Checks.noIndex("weigh(" + node + ", " + node + ", 1)", () -> x.weigh(node, node, 1));
    }

    private void aWeightBelow0() {
        document.hold("Promise 3", NO_WEIGHT);
        CommunityLevels x = Graphs.of(2, 0, 1, MOST - 5, 1, 1, 5);
        for (int w : new int[] {-1, -5, Integer.MIN_VALUE, Integer.MIN_VALUE + 1}) {
            Checks.noArgument("weigh(0, 1, " + w + ")", () -> x.weigh(0, 1, w));
            Checks.noArgument("weigh(1, 1, " + w + ")", () -> x.weigh(1, 1, w));
            Checks.noArgument("weigh(0, 0, " + w + ")", () -> x.weigh(0, 0, w));
        }
        Checks.same("M", x.about(1, 0), MOST);
    }

    private void oneWeightTooLarge() {
        document.hold("Promise 3", NO_WEIGHT);
        CommunityLevels x = Graphs.of(2);
        for (int w : new int[] {1 << 29, (1 << 29) + 1, 1 << 30, Integer.MAX_VALUE}) {
            Checks.noArgument("weigh(0, 1, " + w + ")", () -> x.weigh(0, 1, w));
            Checks.noArgument("weigh(0, 0, " + w + ")", () -> x.weigh(0, 0, w));
        }
        Checks.same("M", x.about(1, 0), 0);
        Checks.same("2^29 - 1 is not too large", x.weigh(0, 1, MOST), 0);
    }

    /** A sum in int would wrap round for the largest of them. */
    private void aSumTooLarge() {
        document.hold("Promise 3", NO_WEIGHT);
        CommunityLevels x = Graphs.of(3, 0, 1, MOST - 7, 2, 2, 7);
        for (int w : new int[] {1, 2, MOST, 1 << 29, 1 << 30, Integer.MAX_VALUE, Integer.MAX_VALUE - MOST + 1}) {
            Checks.noArgument("weigh(0, 2, " + w + ")", () -> x.weigh(0, 2, w));
            Checks.noArgument("weigh(1, 1, " + w + ")", () -> x.weigh(1, 1, w));
        }
        Checks.noArgument("weigh(2, 2, 8)", () -> x.weigh(2, 2, 8));
        Checks.noArgument("weigh(1, 0, 2^29 - 7)", () -> x.weigh(1, 0, MOST - 6));
        Checks.same("M", x.about(1, 0), MOST);
    }

    /** What the weight was counts no more in the M that would be. */
    private void aFullSumWithOtherWeights() {
        document.hold("Promise 3", NO_WEIGHT);
        CommunityLevels x = Graphs.of(3, 0, 1, MOST - 7, 2, 2, 7);
        Checks.same("0, when M is full", x.weigh(0, 2, 0), 0);
        Checks.same("the same, when M is full", x.weigh(0, 1, MOST - 7), MOST - 7);
        Checks.same("less", x.weigh(2, 2, 6), 7);
        Checks.same("and 1 instead", x.weigh(0, 2, 1), 0);
        Checks.same("M is full again", x.about(1, 0), MOST);
    }

    void all() {
        newHasOneNode();
        newIsNotRun();
        fewestNodes();
        mostNodes();
        fewerAndThenMoreNodes();
        asManyNodesAsBefore();
        nodesAfterARun();
        tooFewNodes();
        tooManyNodes();
        leastWeight();
        greatestWeight();
        theSameWeightAgain();
        aWeighThatChangesNoWeightEndsARun();
        aWeighThatIsRefusedEndsNoRun();
        whatItWasAtItsLeastAndGreatest();
        whatItWasAfterARefusedWeigh();
        noNodeBelow();
        noNodeAbove();
        noNodeFarOff();
        aWeightBelow0();
        oneWeightTooLarge();
        aSumTooLarge();
        aFullSumWithOtherWeights();
    }
}
