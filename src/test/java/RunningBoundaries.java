/** Boundary cases of promises 4 to 11: run and what is told of it. */
final class RunningBoundaries {
    private static final int MOST = Graphs.MOST_M;

    private static final String ALL_MADE = "All LEVELS are made.";
    private static final String HOW_MANY = "Answers how many.";
    private static final String LEVELS = "How many LEVELS there are; 0 when it was not run.";
    private static final String OF_A_LEVEL = "Of a LEVEL: NODES at its beginning (what = 0), COMMUNITIES at its end (1), PASSES"
        + " (2), MOVES (3).";
    private static final String NO_LEVEL_OR_WHAT = "IndexOutOfBoundsException: there is no such LEVEL, or another what.";
    private static final String IN_WHICH = "The number of the COMMUNITY in which a NODE (of LEVEL 0) is at the end of a LEVEL.";
    private static final String NO_LEVEL_OR_NODE = "IndexOutOfBoundsException: there is no such LEVEL, or NODE.";
    private static final String U_AT_END = "U at the end of a LEVEL.";
    private static final String NO_LEVEL = "IndexOutOfBoundsException: there is no such LEVEL.";
    private static final String MOVES = "How many MOVES there were on all LEVELS; of these the first 400 are told.";
    private static final String OF_A_MOVE = "Of MOVE k: the LEVEL (what = 0), the NODE of that LEVEL (1), the number of the"
        + " COMMUNITY from which (2) and into which (3), as they were then.";
    private static final String NO_MOVE_OR_WHAT = "IndexOutOfBoundsException: there is none such among the first 400, or another"
        + " what.";
    private static final String GAIN_OF_MOVE = "The GAIN of MOVE k.";
    private static final String NO_MOVE = "IndexOutOfBoundsException: there is none such among the first 400.";

    private final Sentences document;

    RunningBoundaries(Sentences document) {
        this.document = document;
    }

    private static CommunityLevels ran(CommunityLevels x) {
        x.run();
        return x;
    }

    /** That there are so many moves in these three is what PlainModel answers. */
    private static CommunityLevels withMoves399() {
        return ran(Graphs.rising(33, 44, 5));
    }

    private static CommunityLevels withMoves400() {
        return ran(Graphs.rising(33, 11, 2));
    }

    private static CommunityLevels withMoves401() {
        return ran(Graphs.rising(33, 6, 1));
    }

    private void allLevelsOfOneNode() {
        document.hold("Promise 4", ALL_MADE);
        CommunityLevels x = ran(new CommunityLevels());
        Told.levelIs(x, 0, "1 1 1 0", "0", 0);
        Checks.noIndex("level(1, 0)", () -> x.level(1, 0));
    }

    private void allLevelsWithoutWeights() {
        document.hold("Promise 4", ALL_MADE);
        CommunityLevels x = ran(Graphs.of(4));
        Told.levelIs(x, 0, "4 4 1 0", "0 1 2 3", 0);
        Checks.noIndex("level(1, 0)", () -> x.level(1, 0));
    }

    private void allLevelsDownToOneNode() {
        document.hold("Promise 4", ALL_MADE);
        CommunityLevels x = ran(Graphs.of(3, 0, 1, 1, 0, 2, 1));
        Told.levelIs(x, 0, "3 1 2 2", "0 0 0", 0);
        Told.levelIs(x, 1, "1 1 1 0", "0 0 0", 0);
        Checks.noIndex("level(2, 0)", () -> x.level(2, 0));
    }

    /** Each degree is 7680, M is 122880: of 2^k nodes each, two communities gain above 0 together. */
    private void allLevelsOfManyHalves() {
        document.hold("Promise 4", ALL_MADE);
        CommunityLevels x = Graphs.halves();
        Checks.same("run()", x.run(), 6);
        for (int level = 0; level < 6; level++) {
            Checks.same("nodes of level " + level, x.level(level, 0), 32 >> level);
        }
        Checks.same("moves()", x.moves(), 16 + 8 + 4 + 2 + 1);
        Checks.same("gained(0)", x.gained(0), 4L * 122880 * 320 - 2L * 7680 * 7680);
        Checks.same("gained(30)", x.gained(30), 4L * 122880 * 241 * 256 - 2L * 122880 * 122880);
        Checks.same("community(5, 31)", x.community(5, 31), 0);
        Checks.same("community(3, 31)", x.community(3, 31), 1);
        Checks.noIndex("modularity(6)", () -> x.modularity(6));
    }

    private void fewestAndManyLevels() {
        document.hold("Promise 4", HOW_MANY);
        Checks.same("a new object: run()", new CommunityLevels().run(), 1);
        Checks.same("40 nodes without weights: run()", Graphs.of(40).run(), 1);
        Checks.same("a ring of 33: run()", Graphs.ring(33).run(), 4);
    }

    private void runAgain() {
        document.hold("Promise 4", HOW_MANY);
        CommunityLevels x = Graphs.triangles();
        Checks.same("run()", x.run(), 2);
        String once = Told.all(x);
        Checks.same("run() again", x.run(), 2);
        Checks.same("all that is told", Told.all(x), once);
    }

    /** Nothing of the longer run before is left. */
    private void runAfterALongerOne() {
        document.hold("Promise 4", HOW_MANY);
        CommunityLevels x = ran(Graphs.ring(33));
        x.nodes(2);
        Checks.same("run()", x.run(), 1);
        Checks.same("moves()", x.moves(), 0);
        Checks.noIndex("level(1, 0)", () -> x.level(1, 0));
        Checks.noIndex("move(0, 0)", () -> x.move(0, 0));
    }

    private void levelsWhenItWasNotRun() {
        document.hold("Promise 5", LEVELS);
        CommunityLevels x = new CommunityLevels();
        Checks.same("new", x.levels(), 0);
        x.run();
        Checks.same("run", x.levels(), 1);
        x.nodes(1);
        Checks.same("nodes after run", x.levels(), 0);
        x.run();
        x.weigh(0, 0, 1);
        Checks.same("weigh after run", x.levels(), 0);
        x.run();
        x.place(0, 0);
        x.take(0);
        Checks.noArgument("nodes(0)", Checks.of(() -> x.nodes(0)));
        Checks.same("place, take and a refused call after run", x.levels(), 1);
    }

    private void leastOfALevel() {
        document.hold("Promise 6", OF_A_LEVEL);
        Told.levelIs(ran(Graphs.of(1, 0, 0, MOST)), 0, "1 1 1 0", "0", 0);
    }

    private void mostOfALevel() {
        document.hold("Promise 6", OF_A_LEVEL);
        CommunityLevels none = ran(Graphs.of(40));
        Checks.same("40 nodes", none.level(0, 0), 40);
        Checks.same("40 communities", none.level(0, 1), 40);
        CommunityLevels x = ran(Graphs.rising(40, 8, 3));
        Checks.same("moves of level 0, more than are told", x.level(0, 3) > 400 ? 1 : 0, 1);
        Checks.same("moves of all levels", x.level(0, 3) + x.level(1, 3) + x.level(2, 3), 624);
    }

    private void noLevelBelowOrAbove() {
        document.hold("Promise 6", NO_LEVEL_OR_WHAT);
        CommunityLevels x = Graphs.triangles();
        Checks.noIndex("not run: level(0, 0)", () -> x.level(0, 0));
        x.run();
        Checks.noIndex("level(-1, 0)", () -> x.level(-1, 0));
        Checks.noIndex("level(2, 0)", () -> x.level(2, 0));
        Checks.noIndex("level(-1, 4)", () -> x.level(-1, 4));
        Checks.noIndex("level(40, 0)", () -> x.level(40, 0));
        for (int far : Graphs.FAR) {
            Checks.noIndex("level(" + far + ", 0)", () -> x.level(far, 0));
        }
    }

    private void anotherWhatOfALevel() {
        document.hold("Promise 6", NO_LEVEL_OR_WHAT);
        CommunityLevels x = ran(Graphs.triangles());
        for (int level = 0; level < 2; level++) {
            int l = level;
            Checks.noIndex("level(" + l + ", -1)", () -> x.level(l, -1));
            Checks.noIndex("level(" + l + ", 4)", () -> x.level(l, 4));
            for (int far : Graphs.FAR) {
                Checks.noIndex("level(" + l + ", " + far + ")", () -> x.level(l, far));
            }
        }
    }

    /** The last level has one node, but the nodes asked for are those of level 0. */
    private void communityOfTheFirstAndLastNode() {
        document.hold("Promise 7", IN_WHICH);
        CommunityLevels x = ran(Graphs.star(40));
        Checks.same("nodes of level 1", x.level(1, 0), 1);
        Checks.same("community(1, 0)", x.community(1, 0), 0);
        Checks.same("community(1, 39)", x.community(1, 39), 0);
        CommunityLevels none = ran(Graphs.of(40));
        Checks.same("community(0, 39), each by itself", none.community(0, 39), 39);
    }

    private void communityOfNoLevel() {
        document.hold("Promise 7", NO_LEVEL_OR_NODE);
        CommunityLevels x = Graphs.triangles();
        Checks.noIndex("not run: community(0, 0)", () -> x.community(0, 0));
        x.run();
        Checks.noIndex("community(-1, 0)", () -> x.community(-1, 0));
        Checks.noIndex("community(2, 0)", () -> x.community(2, 0));
        for (int far : Graphs.FAR) {
            Checks.noIndex("community(" + far + ", 0)", () -> x.community(far, 0));
        }
    }

    private void communityOfNoNode() {
        document.hold("Promise 7", NO_LEVEL_OR_NODE);
        CommunityLevels x = ran(Graphs.triangles());
        for (int level = 0; level < 2; level++) {
            int l = level;
            for (int node : new int[] {-1, 6, 39, 40}) {
                Checks.noIndex("community(" + l + ", " + node + ")", () -> x.community(l, node));
            }
            for (int far : Graphs.FAR) {
                Checks.noIndex("community(" + l + ", " + far + ")", () -> x.community(l, far));
            }
        }
        CommunityLevels most = ran(Graphs.star(40));
        Checks.noIndex("of 40: community(0, 40)", () -> most.community(0, 40));
        Checks.noIndex("of 40: community(1, -1)", () -> most.community(1, -1));
    }

    private void greatestUOfALevel() {
        document.hold("Promise 8", U_AT_END);
        long m = 40L * 13421772;
        Checks.same("40 loops", ran(Graphs.loops(13421772)).modularity(0), 4 * m * m - 40 * (2L * 13421772) * (2L * 13421772));
    }

    private void uOfALevelIs0() {
        document.hold("Promise 8", U_AT_END);
        Checks.same("M 0", ran(Graphs.of(40)).modularity(0), 0);
        Checks.same("all of M in one community", ran(Graphs.of(2, 0, 1, MOST)).modularity(1), 0);
    }

    private void uOfNoLevel() {
        document.hold("Promise 8", NO_LEVEL);
        CommunityLevels x = Graphs.triangles();
        Checks.noIndex("not run: modularity(0)", () -> x.modularity(0));
        x.run();
        Checks.noIndex("modularity(-1)", () -> x.modularity(-1));
        Checks.noIndex("modularity(2)", () -> x.modularity(2));
        for (int far : Graphs.FAR) {
            Checks.noIndex("modularity(" + far + ")", () -> x.modularity(far));
        }
    }

    private void noMoves() {
        document.hold("Promise 9", MOVES);
        CommunityLevels x = Graphs.of(40);
        Checks.same("not run: moves()", x.moves(), 0);
        x.run();
        Checks.same("run: moves()", x.moves(), 0);
    }

    private void movesAround400() {
        document.hold("Promise 9", MOVES);
        Checks.same("399", withMoves399().moves(), 399);
        Checks.same("400", withMoves400().moves(), 400);
        Checks.same("401", withMoves401().moves(), 401);
        Checks.same("624", ran(Graphs.rising(40, 8, 3)).moves(), 624);
    }

    private void theFirst400AreTold() {
        document.hold("Promise 9", MOVES);
        PlainModel plain = new PlainModel();
        plain.nodes(33);
        for (int i = 0; i < 32; i++) {
            plain.weigh(i, i + 1, 6 + i);
        }
        plain.run();
        Checks.same("moves() of the plain model", plain.moves(), 401);
        CommunityLevels x = withMoves401();
        for (int k = 0; k < 400; k++) {
            Checks.same("gained(" + k + ") of 401", x.gained(k), plain.gained(k));
        }
    }

    /** In the end the communities of the first move are one with the number 0. */
    private void firstAndLastMove() {
        document.hold("Promise 10", OF_A_MOVE);
        CommunityLevels x = ran(Graphs.star(40));
        Checks.same("move 0", Told.moveText(x, 0), "0/0:0>1+78");
        Checks.same("move 38", Told.moveText(x, 38), "0/39:39>1+2");
    }

    /** There a node is one of that level: node 6 of the 8 on level 1. */
    private void movesOfALaterLevel() {
        document.hold("Promise 10", OF_A_MOVE);
        CommunityLevels x = ran(Graphs.ring(16));
        Checks.same("the last of level 0", Told.moveText(x, 7), "0/14:14>15+56");
        Checks.same("the first of level 1", Told.moveText(x, 8), "1/0:0>1+32");
        Checks.same("the last of level 1", Told.moveText(x, 11), "1/6:6>7+32");
    }

    private void moveAfterTheLast() {
        document.hold("Promise 10", NO_MOVE_OR_WHAT);
        CommunityLevels none = Graphs.of(3);
        Checks.noIndex("not run: move(0, 0)", () -> none.move(0, 0));
        none.run();
        Checks.noIndex("no move: move(0, 0)", () -> none.move(0, 0));
        CommunityLevels x = ran(Graphs.triangles());
        Checks.same("move(4, 0)", x.move(4, 0), 0);
        Checks.noIndex("move(5, 0)", () -> x.move(5, 0));
        CommunityLevels y = withMoves399();
        Checks.same("of 399: move(398, 0)", Checks.outcome(() -> y.move(398, 0)), "1");
        Checks.noIndex("of 399: move(399, 0)", () -> y.move(399, 0));
    }

    private void moveAfterThe400th() {
        document.hold("Promise 10", NO_MOVE_OR_WHAT);
        CommunityLevels x = withMoves400();
        Checks.same("of 400: move(399, 0)", Checks.outcome(() -> x.move(399, 0)), "1");
        Checks.noIndex("of 400: move(400, 0)", () -> x.move(400, 0));
        CommunityLevels y = withMoves401();
        Checks.same("of 401: move(399, 0)", Checks.outcome(() -> y.move(399, 0)), "1");
        Checks.noIndex("of 401: move(400, 0)", () -> y.move(400, 0));
    }

    private void moveBelowOrFarOff() {
        document.hold("Promise 10", NO_MOVE_OR_WHAT);
        CommunityLevels x = withMoves401();
        Checks.noIndex("move(-1, 0)", () -> x.move(-1, 0));
        Checks.noIndex("move(-1, 4)", () -> x.move(-1, 4));
        for (int far : Graphs.FAR) {
            Checks.noIndex("move(" + far + ", 0)", () -> x.move(far, 0));
        }
    }

    private void anotherWhatOfAMove() {
        document.hold("Promise 10", NO_MOVE_OR_WHAT);
        CommunityLevels x = withMoves401();
        for (int k : new int[] {0, 1, 399}) {
            Checks.noIndex("move(" + k + ", -1)", () -> x.move(k, -1));
            Checks.noIndex("move(" + k + ", 4)", () -> x.move(k, 4));
            for (int far : Graphs.FAR) {
                Checks.noIndex("move(" + k + ", " + far + ")", () -> x.move(k, far));
            }
        }
    }

    private void leastAndGreatGain() {
        document.hold("Promise 11", GAIN_OF_MOVE);
        Checks.same("a weight of 1", ran(Graphs.of(2, 0, 1, 1)).gained(0), 2);
        Checks.same("a weight of 2^29 - 1", ran(Graphs.of(2, 0, 1, MOST)).gained(0), 2L * MOST * MOST);
    }

    private void gainAfterTheLast() {
        document.hold("Promise 11", NO_MOVE);
        CommunityLevels none = Graphs.of(3);
        Checks.noIndex("not run: gained(0)", () -> none.gained(0));
        none.run();
        Checks.noIndex("no move: gained(0)", () -> none.gained(0));
        CommunityLevels x = ran(Graphs.triangles());
        Checks.same("gained(4)", x.gained(4), 32);
        Checks.noIndex("gained(5)", () -> x.gained(5));
        CommunityLevels y = withMoves399();
        Checks.same("of 399: is gained(398) above 0", y.gained(398) > 0 ? 1 : 0, 1);
        Checks.noIndex("of 399: gained(399)", () -> y.gained(399));
    }

    private void gainAfterThe400th() {
        document.hold("Promise 11", NO_MOVE);
        CommunityLevels x = withMoves400();
        Checks.same("of 400: is gained(399) above 0", x.gained(399) > 0 ? 1 : 0, 1);
        Checks.noIndex("of 400: gained(400)", () -> x.gained(400));
        CommunityLevels y = withMoves401();
        Checks.same("of 401: is gained(399) above 0", y.gained(399) > 0 ? 1 : 0, 1);
        Checks.noIndex("of 401: gained(400)", () -> y.gained(400));
    }

    private void gainBelowOrFarOff() {
        document.hold("Promise 11", NO_MOVE);
        CommunityLevels x = withMoves401();
        Checks.noIndex("gained(-1)", () -> x.gained(-1));
        for (int far : Graphs.FAR) {
            Checks.noIndex("gained(" + far + ")", () -> x.gained(far));
        }
    }

    void all() {
        allLevelsOfOneNode();
        allLevelsWithoutWeights();
        allLevelsDownToOneNode();
        allLevelsOfManyHalves();
        fewestAndManyLevels();
        runAgain();
        runAfterALongerOne();
        levelsWhenItWasNotRun();
        leastOfALevel();
        mostOfALevel();
        noLevelBelowOrAbove();
        anotherWhatOfALevel();
        communityOfTheFirstAndLastNode();
        communityOfNoLevel();
        communityOfNoNode();
        greatestUOfALevel();
        uOfALevelIs0();
        uOfNoLevel();
        noMoves();
        movesAround400();
        theFirst400AreTold();
        firstAndLastMove();
        movesOfALaterLevel();
        moveAfterTheLast();
        moveAfterThe400th();
        moveBelowOrFarOff();
        anotherWhatOfAMove();
        leastAndGreatGain();
        gainAfterTheLast();
        gainAfterThe400th();
        gainBelowOrFarOff();
    }
}
