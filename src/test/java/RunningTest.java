/** Promises 4 to 11: run and what is told of it; the answers are reckoned by hand, but for 612. */
public final class RunningTest {
    private static final int[] WRONG = {-1, 4, 5, Integer.MAX_VALUE, Integer.MIN_VALUE, 1 << 30};

    private RunningTest() {
    }

    private static void twoTriangles() {
        CommunityLevels x = Graphs.triangles();
        Checks.same("run()", x.run(), 2);
        Checks.same("levels()", x.levels(), 2);
        Told.levelIs(x, 0, "6 2 3 5", "0 0 0 1 1 1", 70);
        Told.levelIs(x, 1, "2 2 1 0", "0 0 0 1 1 1", 70);
        Told.movesAre(x, "0/0:0>1+20", "0/2:2>1+32", "0/3:3>4+16", "0/4:4>5+4", "0/3:4>5+32");
    }

    /** Node 2 leaves its community again; of the numbers 0, 1 and 2 that are free it takes 0. */
    private static void aNodeLeaves() {
        CommunityLevels x = Graphs.leaver(4);
        Checks.same("leaver: run()", x.run(), 2);
        Told.movesAre(x, "0/0:0>1+22", "0/1:1>3+66", "0/2:2>3+4", "0/0:1>3+2", "0/2:3>0+8");
        Told.levelIs(x, 0, "4 2 3 5", "0 0 1 0", 8);
        Told.levelIs(x, 1, "2 2 1 0", "0 0 1 0", 8);
    }

    /** To join node 4, which has no weights, would gain as much as to be alone, but is no choice. */
    private static void aNodeWithoutWeightsIsNoChoice() {
        CommunityLevels x = Graphs.leaver(5);
        Checks.same("leaver of 5: run()", x.run(), 2);
        Told.movesAre(x, "0/0:0>1+22", "0/1:1>3+66", "0/2:2>3+4", "0/0:1>3+2", "0/2:3>0+8");
        Told.levelIs(x, 0, "5 3 3 5", "0 0 1 0 2", 8);
        Told.levelIs(x, 1, "3 3 1 0", "0 0 1 0 2", 8);
    }

    /** Node 1 leaves and is community 0 then; node 2 follows; at the end that community is 1. */
    private static void aNodeLeavesAndAnotherFollows() {
        CommunityLevels x = Graphs.of(4, 0, 3, 1, 1, 1, 1, 2, 0, 2, 1, 2, 3);
        Checks.same("follower: run()", x.run(), 2);
        Told.movesAre(x, "0/0:0>2+26", "0/1:1>2+4", "0/3:3>2+2", "0/1:2>0+6", "0/2:2>0+18");
        Told.levelIs(x, 0, "4 2 3 5", "0 1 1 0", 24);
        Told.levelIs(x, 1, "2 2 1 0", "0 1 1 0", 24);
    }

    private static void ofSeveralTheFirst() {
        CommunityLevels x = Graphs.of(3, 0, 1, 1, 0, 2, 1);
        Checks.same("tie: run()", x.run(), 2);
        Told.movesAre(x, "0/0:0>1+4", "0/2:2>1+2");
        Told.levelIs(x, 0, "3 1 2 2", "0 0 0", 0);
        Told.levelIs(x, 1, "1 1 1 0", "0 0 0", 0);
    }

    /** At its second turn node 0 gains 24 both in community 2 and in a new one, which would be 0. */
    private static void aNewOneIsTheLastOfSeveral() {
        CommunityLevels x = Graphs.of(4, 0, 2, 2, 2, 2, 3, 0, 0, 1, 3, 0, 2, 1, 3, 4);
        Checks.same("tie with a new one: run()", x.run(), 2);
        Told.movesAre(x, "0/0:0>3+24", "0/1:1>3+96", "0/0:3>2+24");
        Told.levelIs(x, 0, "4 2 3 3", "0 1 0 1", 184);
        Told.levelIs(x, 1, "2 2 1 0", "0 1 0 1", 184);
    }

    private static void aGainOf0IsNoMove() {
        CommunityLevels x = Graphs.of(2, 0, 1, 2, 0, 0, 1, 1, 1, 1);
        Checks.same("gain 0: gain(0, 1)", x.gain(0, 1), 0);
        Checks.same("gain 0: run()", x.run(), 1);
        Told.movesAre(x);
        Told.levelIs(x, 0, "2 2 1 0", "0 1", 0);
        x.weigh(0, 1, 3);
        Checks.same("gain above 0: run()", x.run(), 2);
        Told.movesAre(x, "0/0:0>1+10");
    }

    /** Node 0 would gain 0 by itself, in the second pass. */
    private static void toLeaveForAGainOf0IsNoMove() {
        CommunityLevels x = Graphs.of(4, 2, 3, 4, 3, 0, 4, 0, 0, 1);
        Checks.same("leave for 0: run()", x.run(), 2);
        Told.movesAre(x, "0/0:0>3+48", "0/2:2>3+32");
        Told.levelIs(x, 0, "4 2 2 2", "0 1 0 0", 0);
        Told.levelIs(x, 1, "2 2 1 0", "0 1 0 0", 0);
        x.take(0);
        Checks.same("leave for 0: gain(0, 2)", x.gain(0, 2), 0);
    }

    private static void withoutWeights() {
        CommunityLevels x = Graphs.of(4);
        Checks.same("no weights: run()", x.run(), 1);
        Told.movesAre(x);
        Told.levelIs(x, 0, "4 4 1 0", "0 1 2 3", 0);
        x.weigh(2, 2, 5);
        Checks.same("a loop alone: run()", x.run(), 1);
        Told.levelIs(x, 0, "4 4 1 0", "0 1 2 3", 0);
    }

    /** A ring: pairs, then pairs of pairs; there are moves on the second level too. */
    private static void severalLevels() {
        CommunityLevels x = Graphs.ring(16);
        Checks.same("ring: run()", x.run(), 3);
        Told.levelIs(x, 0, "16 8 2 8", "0 0 1 1 2 2 3 3 4 4 5 5 6 6 7 7", 384);
        Told.levelIs(x, 1, "8 4 2 4", "0 0 0 0 1 1 1 1 2 2 2 2 3 3 3 3", 512);
        Told.levelIs(x, 2, "4 4 1 0", "0 0 0 0 1 1 1 1 2 2 2 2 3 3 3 3", 512);
        Told.movesAre(x, "0/0:0>1+56", "0/2:2>3+56", "0/4:4>5+56", "0/6:6>7+56", "0/8:8>9+56", "0/10:10>11+56",
            "0/12:12>13+56", "0/14:14>15+56", "1/0:0>1+32", "1/2:2>3+32", "1/4:4>5+32", "1/6:6>7+32");
    }

    /** How many moves there are, 612, is what PlainModel answers. */
    private static void moreThan400Moves() {
        CommunityLevels x = Graphs.rising(40, 1000, 100);
        Checks.same("rising: run()", x.run(), 3);
        Checks.same("rising: moves()", x.moves(), 612);
        Checks.same("rising: moves of all levels", x.level(0, 3) + x.level(1, 3) + x.level(2, 3), 612);
        for (int k = 0; k < 39; k++) {
            Checks.same("rising: node of move " + k, x.move(k, 1), k);
            Checks.same("rising: from where", x.move(k, 2), k);
            Checks.same("rising: into which", x.move(k, 3), k + 1);
        }
        Checks.same("rising: move 0", Told.moveText(x, 0), "0/0:0>1+448200000");
        Checks.same("rising: level of move 399", x.move(399, 0), 0);
        Checks.same("rising: gained(399) is above 0", x.gained(399) > 0 ? 1 : 0, 1);
        Checks.noIndex("rising: move(400, 0)", () -> x.move(400, 0));
        Checks.noIndex("rising: gained(400)", () -> x.gained(400));
        Checks.noIndex("rising: move(611, 0)", () -> x.move(611, 0));
        x.weigh(0, 1, 1000);
        Checks.same("rising: moves() after weigh", x.moves(), 0);
        Checks.same("rising: run() anew", x.run(), 3);
        Checks.same("rising: moves() anew", x.moves(), 612);
        Checks.same("rising: move 0 anew", Told.moveText(x, 0), "0/0:0>1+448200000");
    }

    private static void promise4RunTwice() {
        CommunityLevels x = Graphs.leaver(4);
        x.place(0, 2);
        x.run();
        String once = Told.all(x);
        Checks.same("run() twice", x.run(), 2);
        Checks.same("all after run() twice", Told.all(x), once);
        Checks.same("run() leaves one's own partition", x.about(4, 0), 2);
        x.weigh(1, 2, 4);
        Checks.same("run() anew", x.run(), 2);
        Checks.same("all after run() anew", Told.all(x), once);
    }

    private static void notRun() {
        CommunityLevels x = Graphs.triangles();
        Checks.same("not run: levels()", x.levels(), 0);
        Checks.same("not run: moves()", x.moves(), 0);
        Checks.noIndex("not run: level(0, 0)", () -> x.level(0, 0));
        Checks.noIndex("not run: community(0, 0)", () -> x.community(0, 0));
        Checks.noIndex("not run: modularity(0)", () -> x.modularity(0));
        Checks.noIndex("not run: move(0, 0)", () -> x.move(0, 0));
        Checks.noIndex("not run: gained(0)", () -> x.gained(0));
    }

    private static void wrongIndexes() {
        CommunityLevels x = Graphs.triangles();
        x.run();
        String before = Told.all(x);
        for (int k : new int[] {-1, 2, 3, Integer.MAX_VALUE, Integer.MIN_VALUE, 1 << 30}) {
            Checks.noIndex("level(" + k + ", 0)", () -> x.level(k, 0));
            Checks.noIndex("community(" + k + ", 0)", () -> x.community(k, 0));
            Checks.noIndex("modularity(" + k + ")", () -> x.modularity(k));
        }
        for (int what : WRONG) {
            Checks.noIndex("level(0, " + what + ")", () -> x.level(0, what));
            Checks.noIndex("move(0, " + what + ")", () -> x.move(0, what));
        }
        for (int k : new int[] {-1, 6, 400, Integer.MAX_VALUE, Integer.MIN_VALUE, 1 << 30}) {
            Checks.noIndex("community(0, " + k + ")", () -> x.community(0, k));
            Checks.noIndex("move(" + k + ", 0)", () -> x.move(k, 0));
            Checks.noIndex("gained(" + k + ")", () -> x.gained(k));
        }
        Checks.same("all after wrong indexes", Told.all(x), before);
    }

    public static void main(String[] args) {
        twoTriangles();
        aNodeLeaves();
        aNodeWithoutWeightsIsNoChoice();
        aNodeLeavesAndAnotherFollows();
        ofSeveralTheFirst();
        aNewOneIsTheLastOfSeveral();
        aGainOf0IsNoMove();
        toLeaveForAGainOf0IsNoMove();
        withoutWeights();
        severalLevels();
        moreThan400Moves();
        promise4RunTwice();
        notRun();
        wrongIndexes();
        Checks.end();
    }
}
