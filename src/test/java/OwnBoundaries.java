/** Boundary cases of promises 12 to 16: one's own partition, and about. */
final class OwnBoundaries {
    private static final int MOST = Graphs.MOST_M;

    private static final String BECOMES_C = "A NODE's COMMUNITY in one's own PARTITION becomes c.";
    private static final String WHAT_IT_WAS = "Answers what it was.";
    private static final String NO_NODE_OR_C = "IndexOutOfBoundsException: there is no such NODE, or c is not 0 .. N - 1.";
    private static final String BECOMES_LEVEL = "One's own PARTITION becomes that of the end of a LEVEL.";
    private static final String NO_LEVEL = "IndexOutOfBoundsException: there is no such LEVEL.";
    private static final String OWN_U = "U of one's own PARTITION.";
    private static final String GAIN = "The GAIN of a MOVE of a NODE into the COMMUNITY c of one's own PARTITION (0, if it is there;"
        + " c may have no NODE).";
    private static final String ABOUT = "N (what = 0), M (1), the DEGREE of NODE i (2), its LOOP (3), its COMMUNITY in one's own"
        + " PARTITION (4).";
    private static final String NO_WHAT_OR_NODE = "IndexOutOfBoundsException: another what, or, from 2 on, no such NODE.";

    private final Sentences document;

    OwnBoundaries(Sentences document) {
        this.document = document;
    }

    private void placeInTheFirstAndLast() {
        document.hold("Promise 12", BECOMES_C);
        CommunityLevels x = Graphs.of(40);
        x.place(0, 39);
        x.place(39, 0);
        Checks.same("first node in the last community", x.about(4, 0), 39);
        Checks.same("last node in the first community", x.about(4, 39), 0);
        Checks.same("one between stays", x.about(4, 20), 20);
    }

    private void placeAllInOne() {
        document.hold("Promise 12", BECOMES_C);
        CommunityLevels x = Graphs.of(40);
        for (int i = 0; i < 40; i++) {
            x.place(i, 39);
        }
        for (int i = 0; i < 40; i++) {
            Checks.same("community of " + i, x.about(4, i), 39);
        }
    }

    private void placeTheOnlyNode() {
        document.hold("Promise 12", BECOMES_C);
        CommunityLevels x = new CommunityLevels();
        Checks.same("place(0, 0)", x.place(0, 0), 0);
        Checks.same("community of 0", x.about(4, 0), 0);
    }

    private void placeWhereItIs() {
        document.hold("Promise 12", WHAT_IT_WAS);
        CommunityLevels x = Graphs.of(40);
        Checks.same("at first by itself", x.place(39, 39), 39);
        Checks.same("the same again", x.place(39, 39), 39);
        Checks.same("elsewhere", x.place(39, 0), 39);
        Checks.same("there again", x.place(39, 0), 0);
    }

    private void placeNoNode() {
        document.hold("Promise 12", NO_NODE_OR_C);
        CommunityLevels x = Graphs.triangles();
        for (int node : new int[] {-1, 6, 39, 40}) {
            Checks.noIndex("place(" + node + ", 0)", () -> x.place(node, 0));
        }
        for (int far : Graphs.FAR) {
            Checks.noIndex("place(" + far + ", 0)", () -> x.place(far, 0));
        }
        Checks.noIndex("of 40: place(40, 0)", () -> Graphs.of(40).place(40, 0));
        Checks.noIndex("of 1: place(1, 0)", () -> Graphs.of(1).place(1, 0));
    }

    private void placeInNoCommunity() {
        document.hold("Promise 12", NO_NODE_OR_C);
        CommunityLevels x = Graphs.triangles();
        for (int c : new int[] {-1, 6, 39, 40}) {
            Checks.noIndex("place(0, " + c + ")", () -> x.place(0, c));
        }
        for (int far : Graphs.FAR) {
            Checks.noIndex("place(0, " + far + ")", () -> x.place(0, far));
        }
        Checks.noIndex("place(-1, -1)", () -> x.place(-1, -1));
        Checks.noIndex("of 40: place(0, 40)", () -> Graphs.of(40).place(0, 40));
        Checks.noIndex("of 1: place(0, 1)", () -> Graphs.of(1).place(0, 1));
        Checks.same("one's own partition", Told.own(x), "0 1 2 3 4 5");
    }

    private void takeTheFirstAndLastLevel() {
        document.hold("Promise 13", BECOMES_LEVEL);
        CommunityLevels x = Graphs.ring(16);
        x.run();
        x.take(2);
        Checks.same("take(2)", Told.own(x), "0 0 0 0 1 1 1 1 2 2 2 2 3 3 3 3");
        x.take(0);
        Checks.same("take(0)", Told.own(x), "0 0 1 1 2 2 3 3 4 4 5 5 6 6 7 7");
    }

    private void takeOfOneNodeAndOf40() {
        document.hold("Promise 13", BECOMES_LEVEL);
        CommunityLevels one = new CommunityLevels();
        one.run();
        one.take(0);
        Checks.same("of one node", Told.own(one), "0");
        CommunityLevels most = Graphs.of(40, 38, 39, 1);
        most.run();
        most.place(0, 39);
        most.take(1);
        for (int i = 0; i < 40; i++) {
            Checks.same("of 40, node " + i, most.about(4, i), Math.min(i, 38));
        }
    }

    /** A place or a weigh after it changes the one and not the other. */
    private void whatIsTakenIsACopy() {
        document.hold("Promise 13", BECOMES_LEVEL);
        CommunityLevels x = Graphs.triangles();
        x.run();
        x.take(1);
        x.place(0, 5);
        Checks.same("the level's community of 0", x.community(1, 0), 0);
        x.weigh(0, 0, 1);
        Checks.same("one's own partition after weigh", Told.own(x), "5 0 0 1 1 1");
    }

    private void takeNoLevel() {
        document.hold("Promise 13", NO_LEVEL);
        CommunityLevels x = Graphs.triangles();
        Checks.noIndex("not run: take(0)", Checks.of(() -> x.take(0)));
        x.run();
        Checks.noIndex("take(-1)", Checks.of(() -> x.take(-1)));
        Checks.noIndex("take(2)", Checks.of(() -> x.take(2)));
        for (int far : Graphs.FAR) {
            Checks.noIndex("take(" + far + ")", Checks.of(() -> x.take(far)));
        }
        Checks.same("one's own partition", Told.own(x), "0 1 2 3 4 5");
        x.weigh(0, 1, 1);
        Checks.noIndex("after weigh: take(0)", Checks.of(() -> x.take(0)));
        x.run();
        x.nodes(6);
        Checks.noIndex("after nodes: take(0)", Checks.of(() -> x.take(0)));
    }

    private void ownAtItsLeastAndGreatest() {
        document.hold("Promise 14", OWN_U);
        Checks.same("least", Graphs.of(40, 38, 39, MOST).own(), -2L * MOST * MOST);
        CommunityLevels x = Graphs.loops(13421772);
        long m = 40L * 13421772;
        Checks.same("greatest", x.own(), 4 * m * m - 40 * (2L * 13421772) * (2L * 13421772));
        for (int i = 0; i < 40; i++) {
            x.place(i, 0);
        }
        Checks.same("all in one", x.own(), 0);
    }

    private void ownOfANewObject() {
        document.hold("Promise 14", OWN_U);
        CommunityLevels x = new CommunityLevels();
        Checks.same("no weight", x.own(), 0);
        x.weigh(0, 0, MOST);
        Checks.same("the greatest loop", x.own(), 0);
    }

    /** M is 7, the degrees are 2 2 3 3 2 2. */
    private void gainWhereItIs() {
        document.hold("Promise 15", GAIN);
        CommunityLevels x = Graphs.triangles();
        Checks.same("it is there alone", x.gain(5, 5), 0);
        x.place(5, 4);
        Checks.same("it is there with another", x.gain(5, 4), 0);
        Checks.same("the other one", x.gain(4, 4), 0);
        Checks.same("the greatest loop, one node", Graphs.of(1, 0, 0, MOST).gain(0, 0), 0);
    }

    private void gainWhereNoNodeIs() {
        document.hold("Promise 15", GAIN);
        CommunityLevels x = Graphs.triangles();
        x.place(5, 4);
        Checks.same("alone before, alone then", x.gain(0, 5), 0);
        Checks.same("with another before", x.gain(4, 5), -(28 - 8));
        x.place(0, 4);
        Checks.same("without a weight to the others", x.gain(0, 0), 2 * 2 * 4);
    }

    private void gainIntoTheFirstAndLast() {
        document.hold("Promise 15", GAIN);
        CommunityLevels x = Graphs.of(40, 0, 39, 3);
        Checks.same("gain(0, 39)", x.gain(0, 39), 2 * 9);
        Checks.same("gain(39, 0)", x.gain(39, 0), 2 * 9);
        Checks.same("gain(0, 1)", x.gain(0, 1), 0);
        Checks.same("M 0: gain(0, 39)", Graphs.of(40).gain(0, 39), 0);
    }

    private void gainOfNoNode() {
        document.hold("Promise 15", NO_NODE_OR_C);
        CommunityLevels x = Graphs.triangles();
        for (int node : new int[] {-1, 6, 39, 40}) {
            Checks.noIndex("gain(" + node + ", 0)", () -> x.gain(node, 0));
        }
        for (int far : Graphs.FAR) {
            Checks.noIndex("gain(" + far + ", 0)", () -> x.gain(far, 0));
        }
        Checks.noIndex("of 40: gain(40, 0)", () -> Graphs.of(40).gain(40, 0));
        Checks.noIndex("of 1: gain(1, 0)", () -> Graphs.of(1).gain(1, 0));
    }

    private void gainIntoNoCommunity() {
        document.hold("Promise 15", NO_NODE_OR_C);
        CommunityLevels x = Graphs.triangles();
        for (int c : new int[] {-1, 6, 39, 40}) {
            Checks.noIndex("gain(0, " + c + ")", () -> x.gain(0, c));
        }
        for (int far : Graphs.FAR) {
            Checks.noIndex("gain(0, " + far + ")", () -> x.gain(0, far));
        }
        Checks.noIndex("gain(-1, -1)", () -> x.gain(-1, -1));
        Checks.noIndex("of 40: gain(0, 40)", () -> Graphs.of(40).gain(0, 40));
        Checks.noIndex("of 1: gain(0, 1)", () -> Graphs.of(1).gain(0, 1));
    }

    private void aboutAtItsLeast() {
        document.hold("Promise 16", ABOUT);
        CommunityLevels x = new CommunityLevels();
        Checks.same("N", x.about(0, 0), 1);
        for (int what = 1; what < 5; what++) {
            Checks.same("about(" + what + ", 0)", x.about(what, 0), 0);
        }
    }

    private void aboutAtItsGreatest() {
        document.hold("Promise 16", ABOUT);
        CommunityLevels x = Graphs.of(40, 39, 39, MOST);
        Checks.same("N", x.about(0, 39), 40);
        Checks.same("M", x.about(1, 39), MOST);
        Checks.same("degree", x.about(2, 39), 2L * MOST);
        Checks.same("loop", x.about(3, 39), MOST);
        Checks.same("community", x.about(4, 39), 39);
    }

    private void aboutWithoutANode() {
        document.hold("Promise 16", NO_WHAT_OR_NODE);
        CommunityLevels x = Graphs.triangles();
        for (int i : new int[] {-1, 6, 40, Integer.MIN_VALUE, Integer.MAX_VALUE}) {
            Checks.same("about(0, " + i + ")", Checks.outcome(() -> x.about(0, i)), "6");
            Checks.same("about(1, " + i + ")", Checks.outcome(() -> x.about(1, i)), "7");
        }
    }

    private void aboutNoNode() {
        document.hold("Promise 16", NO_WHAT_OR_NODE);
        CommunityLevels x = Graphs.triangles();
        for (int what = 2; what < 5; what++) {
            int w = what;
            for (int i : new int[] {-1, 6, 39, 40}) {
                Checks.noIndex("about(" + w + ", " + i + ")", () -> x.about(w, i));
            }
            for (int far : Graphs.FAR) {
                Checks.noIndex("about(" + w + ", " + far + ")", () -> x.about(w, far));
            }
            Checks.noIndex("of 40: about(" + w + ", 40)", () -> Graphs.of(40).about(w, 40));
            Checks.noIndex("new: about(" + w + ", 1)", () -> new CommunityLevels().about(w, 1));
        }
    }

    private void anotherWhat() {
        document.hold("Promise 16", NO_WHAT_OR_NODE);
        CommunityLevels x = Graphs.triangles();
        for (int i : new int[] {0, 5, -1, 6}) {
            Checks.noIndex("about(-1, " + i + ")", () -> x.about(-1, i));
            Checks.noIndex("about(5, " + i + ")", () -> x.about(5, i));
            for (int far : Graphs.FAR) {
                Checks.noIndex("about(" + far + ", " + i + ")", () -> x.about(far, i));
            }
        }
    }

    void all() {
        placeInTheFirstAndLast();
        placeAllInOne();
        placeTheOnlyNode();
        placeWhereItIs();
        placeNoNode();
        placeInNoCommunity();
        takeTheFirstAndLastLevel();
        takeOfOneNodeAndOf40();
        whatIsTakenIsACopy();
        takeNoLevel();
        ownAtItsLeastAndGreatest();
        ownOfANewObject();
        gainWhereItIs();
        gainWhereNoNodeIs();
        gainIntoTheFirstAndLast();
        gainOfNoNode();
        gainIntoNoCommunity();
        aboutAtItsLeast();
        aboutAtItsGreatest();
        aboutWithoutANode();
        aboutNoNode();
        anotherWhat();
    }
}
