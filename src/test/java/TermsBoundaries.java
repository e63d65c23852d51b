/** Boundary cases of the document's terms; the answers are reckoned by hand. */
final class TermsBoundaries {
    private static final int MOST = Graphs.MOST_M;

    private static final String NODES = "There are N NODES (1 .. 40), numbered from 0 on, and for each two of them, and each"
        + " one with itself (a LOOP), a WEIGHT, at first 0.";
    private static final String SUM = "M is the sum of all WEIGHTS, LOOPS too; it is below 2^29.";
    private static final String DEGREE = "A NODE's DEGREE is the sum of its WEIGHTS with others and twice its LOOP.";
    private static final String U = "For a PARTITION of the NODES into COMMUNITIES, its MODULARITY is U / (4 M M), U being the"
        + " sum over all COMMUNITIES of 4 M I - D D, where I is the sum of WEIGHTS of two NODES in it, and LOOPS of these,"
        + " and D the sum of DEGREES in it.";
    private static final String GAIN = "A MOVE of a NODE into another COMMUNITY, or one of its own, has a GAIN: by how much U is"
        + " greater then.";
    private static final String THROWS = "Methods throw what their comments name, the one named first when several would do;"
        + " a call that throws changes nothing.";

    private final Sentences document;

    TermsBoundaries(Sentences document) {
        this.document = document;
    }

    private void oneNode() {
        document.hold("Terms", NODES);
        CommunityLevels x = Graphs.of(1);
        Checks.same("N", x.about(0, 0), 1);
        Checks.same("the loop of the only node", x.weigh(0, 0, 3), 0);
        Checks.same("its loop then", x.about(3, 0), 3);
        Checks.noIndex("the node after it", () -> x.about(3, 1));
    }

    private void fortyNodes() {
        document.hold("Terms", NODES);
        CommunityLevels x = Graphs.of(40);
        Checks.same("N", x.about(0, 0), 40);
        Checks.same("first and last node", x.weigh(0, 39, 3), 0);
        Checks.same("degree of the first", x.about(2, 0), 3);
        Checks.same("degree of the last", x.about(2, 39), 3);
        Checks.noIndex("the node after it", () -> x.about(2, 40));
    }

    /** Each of the 820 weights is one of its own, in whatever order its nodes are named. */
    private void eachWeightAtFirst0() {
        document.hold("Terms", NODES);
        for (int a = 0; a < 40; a++) {
            CommunityLevels x = Graphs.of(40);
            for (int b = a; b < 40; b++) {
                Checks.same("weigh(" + a + ", " + b + ", ..) at first", x.weigh(a, b, 100 + b), 0);
            }
            for (int b = a; b < 40; b++) {
                Checks.same("weigh(" + b + ", " + a + ", ..) then", x.weigh(b, a, 7), 100 + b);
            }
            Checks.same("M", x.about(1, 0), 7 * (40 - a));
        }
    }

    private void sumOfNoWeights() {
        document.hold("Terms", SUM);
        Checks.same("M of one node", Graphs.of(1).about(1, 0), 0);
        Checks.same("M of 40 nodes", Graphs.of(40).about(1, 0), 0);
    }

    private void greatestSum() {
        document.hold("Terms", SUM);
        Checks.same("M of one weight", Graphs.of(2, 1, 0, MOST).about(1, 0), MOST);
        Checks.same("M of one loop", Graphs.of(1, 0, 0, MOST).about(1, 0), MOST);
        CommunityLevels x = Graphs.loops(6000000);
        for (int i = 1; i < 40; i++) {
            x.weigh(0, i, 7000000);
        }
        Checks.same("M of 40 loops and 39 weights", x.about(1, 0), 513000000);
        Checks.same("the rest", x.weigh(20, 21, MOST - 513000000), 0);
        Checks.same("M then", x.about(1, 0), MOST);
        Checks.noArgument("1 more", () -> x.weigh(20, 22, 1));
    }

    private void leastDegree() {
        document.hold("Terms", DEGREE);
        CommunityLevels x = Graphs.of(3, 0, 1, 5, 1, 1, 5);
        Checks.same("a node without weights", x.about(2, 2), 0);
        x.weigh(1, 1, 0);
        x.weigh(1, 0, 0);
        Checks.same("a node whose weight is 0 again", x.about(2, 0), 0);
        Checks.same("a node whose loop is 0 again", x.about(2, 1), 0);
    }

    private void greatestDegree() {
        document.hold("Terms", DEGREE);
        Checks.same("one loop has all of M", Graphs.of(40, 39, 39, MOST).about(2, 39), 2L * MOST);
        CommunityLevels x = Graphs.star(40);
        x.weigh(0, 0, MOST - 39);
        Checks.same("39 others and a loop", x.about(2, 0), 39 + 2L * (MOST - 39));
        Checks.same("one of the others", x.about(2, 39), 1);
    }

    private void uOfAllInOne() {
        document.hold("Terms", U);
        CommunityLevels x = Graphs.of(3, 0, 1, 300000000, 1, 2, 200000000, 2, 2, 36870911);
        x.place(0, 2);
        x.place(1, 2);
        Checks.same("D is 2 M, I is M", x.own(), 0);
        Checks.same("one node", Graphs.of(1, 0, 0, MOST).own(), 0);
    }

    private void leastU() {
        document.hold("Terms", U);
        CommunityLevels x = Graphs.of(2, 0, 1, MOST);
        Checks.same("all of M is between two communities", x.own(), -2L * MOST * MOST);
    }

    private void greatestU() {
        document.hold("Terms", U);
        CommunityLevels x = Graphs.loops(13421772);
        long m = 40L * 13421772;
        Checks.same("40 communities, no weight between them", x.own(), 4 * m * m - 40 * (2L * 13421772) * (2L * 13421772));
    }

    private void uWithoutWeights() {
        document.hold("Terms", "(M 0: U is 0, too.)");
        for (int n : new int[] {1, 2, 40}) {
            CommunityLevels x = Graphs.of(n);
            Checks.same("own() of " + n, x.own(), 0);
            x.place(0, n - 1);
            Checks.same("own() of " + n + ", two together", x.own(), 0);
            x.run();
            Checks.same("modularity(0) of " + n, x.modularity(0), 0);
        }
    }

    /** 0 and 1 have two thirds of M between them, 2 has the rest as a loop: 8 M M / 3 either way. */
    private void leastAndGreatestGain() {
        document.hold("Terms", GAIN);
        int third = 178956970;
        long due = 8L * third * (3L * third);
        CommunityLevels x = Graphs.of(3, 0, 1, 2 * third, 2, 2, third);
        x.place(0, 1);
        Checks.same("from the one to which it belongs", x.gain(0, 2), -due);
        x.place(0, 2);
        Checks.same("into the one to which it belongs", x.gain(0, 1), due);
    }

    private void gainOfOneOfItsOwn() {
        document.hold("Terms", GAIN);
        CommunityLevels x = Graphs.of(2, 0, 1, MOST);
        x.place(1, 0);
        Checks.same("node 1 goes into 1, where none is", x.gain(1, 1), -2L * MOST * MOST);
        Checks.same("node 0 goes there", x.gain(0, 1), -2L * MOST * MOST);
    }

    private void theOneNamedFirst() {
        document.hold("Terms", THROWS);
        CommunityLevels x = Graphs.triangles();
        Checks.noIndex("no node a, w below 0", () -> x.weigh(6, 0, -1));
        Checks.noIndex("no node b, w below 0", () -> x.weigh(0, -1, Integer.MIN_VALUE));
        Checks.noIndex("no node a, M too large", () -> x.weigh(-1, 0, 1 << 29));
        Checks.noIndex("no node b, M too large", () -> x.weigh(0, 6, Integer.MAX_VALUE));
        Checks.noIndex("neither node, w below 0", () -> x.weigh(6, 6, -1));
    }

    private void aCallThatThrowsChangesNothing() {
        document.hold("Terms", THROWS);
        for (RefusedCall refused : RefusedCall.ALL) {
            for (RefusedCall.State state : RefusedCall.State.values()) {
                refused.check(state);
            }
        }
    }

    void all() {
        oneNode();
        fortyNodes();
        eachWeightAtFirst0();
        sumOfNoWeights();
        greatestSum();
        leastDegree();
        greatestDegree();
        uOfAllInOne();
        leastU();
        greatestU();
        uWithoutWeights();
        leastAndGreatestGain();
        gainOfOneOfItsOwn();
        theOneNamedFirst();
        aCallThatThrowsChangesNothing();
    }
}
