/** Boundary cases of the terms by which a level is made; the answers are reckoned by hand. */
final class LevelBoundaries {
    private static final String LEVEL_0 = "LEVEL 0 is the graph as told, each NODE a COMMUNITY with its number.";
    private static final String MOVES = "A LEVEL goes on in PASSES; in each the NODES come in their order: of all COMMUNITIES but"
        + " its own in which there is a NODE with which its WEIGHT is not 0, in the order of their numbers, and then, if it is"
        + " not alone, a new one for itself (its number is the least one that no COMMUNITY has), that to which its MOVE has the"
        + " greatest GAIN (of several the first one) is its COMMUNITY then, if this GAIN is above 0.";
    private static final String LAST_PASS = "A PASS without a MOVE is the last one.";
    private static final String NUMBERED = "Then COMMUNITIES are numbered anew, from 0 on, by their least NODES.";
    private static final String NEXT = "If there was a MOVE, the next LEVEL is the graph whose NODES are these COMMUNITIES: WEIGHTS"
        + " of two are the sums of those between their NODES, LOOPS their I.";
    private static final String LAST_LEVEL = "Otherwise it was the last LEVEL.";

    /** A search for many passes found this one, 39 nodes; how many there are is what PlainModel answers. */
    private static final int[] LONG = {37, 3, 1233627, 33, 32, 485140, 29, 1, 2524, 1, 0, 3253, 1, 3, 456401, 6, 6, 25461,
        6, 7, 1011, 7, 8, 1016, 8, 9, 1030, 9, 10, 1242, 10, 11, 1353, 11, 12, 1552, 12, 13, 1553, 13, 14, 1664, 14, 15, 1680,
        15, 16, 1680, 16, 17, 1791, 17, 18, 1924, 18, 19, 1898, 19, 20, 2168, 20, 21, 2127, 21, 22, 2156, 22, 23, 2104,
        23, 24, 2109, 24, 25, 2035, 25, 26, 2114, 26, 27, 2115, 27, 28, 2556, 28, 29, 2529, 29, 30, 2541, 30, 31, 2498,
        31, 32, 2528, 32, 33, 2485, 33, 34, 2564, 34, 35, 2566, 35, 36, 2869, 36, 4, 2794, 4, 5, 3131};

    private final Sentences document;

    LevelBoundaries(Sentences document) {
        this.document = document;
    }

    /** Of five nodes, M 16: node 2 leaves {1, 2, 3, 4} again, when 1, 2 and 4 are free. */
    private static CommunityLevels gap() {
        return Graphs.of(5, 0, 0, 2, 0, 2, 1, 1, 1, 1, 1, 2, 3, 1, 3, 2, 1, 4, 1, 2, 2, 3, 2, 3, 2, 3, 4, 1);
    }

    /** Of seven nodes, M 31: {0} {1, 2} {3, 6} {4, 5} at first; then {1, 2} joins and leaves. */
    private static CommunityLevels lateLeaver() {
        return Graphs.of(7, 0, 0, 5, 0, 4, 5, 1, 2, 3, 1, 4, 5, 1, 6, 1, 3, 5, 2, 3, 6, 2, 4, 5, 5, 4, 6, 3);
    }

    private void level0OfTheLastNumbers() {
        document.hold("Terms", LEVEL_0);
        CommunityLevels x = Graphs.of(40, 38, 39, 1);
        x.run();
        Told.movesAre(x, "0/38:38>39+2");
        Checks.same("nodes of level 0", x.level(0, 0), 40);
    }

    private void level0IsNotOnesOwnPartition() {
        document.hold("Terms", LEVEL_0);
        CommunityLevels x = Graphs.triangles();
        for (int i = 0; i < 6; i++) {
            x.place(i, 0);
        }
        x.run();
        Told.movesAre(x, "0/0:0>1+20", "0/2:2>1+32", "0/3:3>4+16", "0/4:4>5+4", "0/3:4>5+32");
    }

    /** In one pass 39 moves, one community that grows from 1 node to 40. */
    private void allNodesInTheirOrder() {
        document.hold("Terms", MOVES);
        CommunityLevels x = Graphs.star(40);
        x.run();
        String[] due = new String[39];
        due[0] = "0/0:0>1+78";
        for (int k = 1; k < 39; k++) {
            int node = k + 1;
            due[k] = "0/" + node + ":" + node + ">1+" + (80 - 2 * node);
        }
        Told.movesAre(x, due);
    }

    private void noCommunityToChoose() {
        document.hold("Terms", MOVES);
        CommunityLevels x = Graphs.of(3, 0, 0, 4, 2, 2, 5);
        Checks.same("loops alone: run()", x.run(), 1);
        Told.movesAre(x);
        Told.levelIs(x, 0, "3 3 1 0", "0 1 2", 36 * 4 - 64 + 36 * 5 - 100);
    }

    private void aWeightThatIs0Again() {
        document.hold("Terms", MOVES);
        CommunityLevels x = Graphs.of(3, 0, 1, 1, 1, 2, 1, 0, 1, 0);
        x.run();
        Told.movesAre(x, "0/1:1>2+2");
    }

    /** With node 0, which has no weights, node 3 would gain 8, as by itself, and 0 comes before. */
    private void aCommunityWithoutAWeightIsNoChoice() {
        document.hold("Terms", MOVES);
        CommunityLevels x = Graphs.of(5, 1, 2, 1, 2, 3, 4, 2, 4, 4, 3, 3, 1);
        x.run();
        Told.movesAre(x, "0/1:1>2+22", "0/2:2>4+66", "0/3:3>4+4", "0/1:2>4+2", "0/3:4>1+8");
    }

    private void theGreatestNotTheFirstAbove0() {
        document.hold("Terms", MOVES);
        CommunityLevels x = Graphs.of(3, 0, 1, 1, 0, 2, 3);
        Checks.same("into 1", x.gain(0, 1), 8);
        x.run();
        Told.movesAre(x, "0/0:0>2+24", "0/1:1>2+2");
    }

    private void ofSeveralTheFirst() {
        document.hold("Terms", MOVES);
        CommunityLevels x = Graphs.of(40, 0, 38, 1, 0, 39, 1);
        x.run();
        Told.movesAre(x, "0/0:0>38+4", "0/39:39>38+2");
    }

    /** Node 1 gains 4 in 2 and in 3; its weight in 3 is that with node 0, which comes before 2. */
    private void theFirstByNumberNotByNode() {
        document.hold("Terms", MOVES);
        CommunityLevels x = Graphs.of(4, 0, 1, 1, 0, 3, 1, 1, 2, 1, 2, 2, 1);
        x.run();
        Told.movesAre(x, "0/0:0>3+12", "0/1:1>2+4");
        Told.levelIs(x, 0, "4 2 2 2", "0 1 1 0", 14);
    }

    /** At its second turn node 0 gains 24 both in 2 and in a new one, whose number would be 0. */
    private void aNewOneComesAfterAllOthers() {
        document.hold("Terms", MOVES);
        CommunityLevels x = Graphs.of(4, 0, 0, 1, 0, 2, 2, 0, 3, 2, 1, 3, 4, 2, 2, 3);
        x.run();
        Told.movesAre(x, "0/0:0>3+24", "0/1:1>3+96", "0/0:3>2+24");
    }

    private void theLeastFreeNumberIs0() {
        document.hold("Terms", MOVES);
        CommunityLevels x = Graphs.leaver(4);
        x.run();
        Told.movesAre(x, "0/0:0>1+22", "0/1:1>3+66", "0/2:2>3+4", "0/0:1>3+2", "0/2:3>0+8");
    }

    private void theLeastFreeNumberIsBetweenOthers() {
        document.hold("Terms", MOVES);
        CommunityLevels x = gap();
        x.run();
        Told.movesAre(x, "0/1:1>3+48", "0/2:2>3+8", "0/4:4>3+28", "0/2:3>1+40");
    }

    /** Numbers that communities of the run before had are free again. */
    private void theLeastFreeNumberInASecondRun() {
        document.hold("Terms", MOVES);
        CommunityLevels x = Graphs.leaver(4);
        x.run();
        x.weigh(0, 1, 1);
        x.run();
        Told.movesAre(x, "0/0:0>1+22", "0/1:1>3+66", "0/2:2>3+4", "0/0:1>3+2", "0/2:3>0+8");
    }

    private void aNewOneOnALaterLevel() {
        document.hold("Terms", MOVES);
        CommunityLevels x = lateLeaver();
        x.run();
        Told.movesAre(x, "0/0:0>4+80", "0/1:1>2+318", "0/3:3>6+200", "0/4:4>5+288", "1/1:1>3+20", "1/2:2>3+4", "1/1:3>1+96");
    }

    /** Node 2 has gone from {0, 1, 2}; node 0 leaves node 1, with which it has no weight. */
    private void oneOfTwoLeaves() {
        document.hold("Terms", MOVES);
        CommunityLevels x = Graphs.of(4, 0, 0, 2, 0, 2, 4, 1, 2, 1, 2, 3, 4);
        x.run();
        Told.movesAre(x, "0/0:0>2+32", "0/1:1>2+10", "0/2:2>3+46", "0/0:2>0+16", "0/1:2>3+18");
        Told.levelIs(x, 0, "4 2 3 5", "0 1 1 1", 48);
    }

    /** Node 1 is community 0 by then. */
    private void intoTheLeastNumber() {
        document.hold("Terms", MOVES);
        CommunityLevels x = Graphs.of(4, 0, 2, 2, 0, 3, 1, 1, 1, 1, 1, 2, 3);
        x.run();
        Told.movesAre(x, "0/0:0>2+26", "0/1:1>2+4", "0/3:3>2+2", "0/1:2>0+6", "0/2:2>0+18");
    }

    private void aloneItStays() {
        document.hold("Terms", MOVES);
        CommunityLevels x = Graphs.of(2, 0, 0, 1, 0, 1, 1, 1, 1, 1);
        Checks.same("gain(0, 1)", x.gain(0, 1), -6);
        Checks.same("run()", x.run(), 1);
        Told.movesAre(x);
        Told.levelIs(x, 0, "2 2 1 0", "0 1", 6);
    }

    private void aGainOf0() {
        document.hold("Terms", MOVES);
        CommunityLevels x = Graphs.of(2, 0, 0, 1, 0, 1, 2, 1, 1, 1);
        Checks.same("gain(0, 1)", x.gain(0, 1), 0);
        Checks.same("run()", x.run(), 1);
        Told.movesAre(x);
    }

    private void aGainOf0ToBeAlone() {
        document.hold("Terms", MOVES);
        CommunityLevels x = Graphs.of(4, 0, 0, 1, 0, 3, 4, 2, 3, 4);
        x.run();
        Told.movesAre(x, "0/0:0>3+48", "0/2:2>3+32");
        x.take(0);
        Checks.same("gain(0, 2), where none is", x.gain(0, 2), 0);
    }

    /** Gains are even: 2 is the least above 0. */
    private void theLeastGainAbove0() {
        document.hold("Terms", MOVES);
        CommunityLevels x = Graphs.of(2, 0, 1, 1);
        x.run();
        Told.movesAre(x, "0/0:0>1+2");
    }

    private void aFirstPassWithoutAMove() {
        document.hold("Terms", LAST_PASS);
        CommunityLevels x = Graphs.of(40);
        x.run();
        Checks.same("passes", x.level(0, 2), 1);
        Checks.same("moves", x.level(0, 3), 0);
    }

    private void aPassWithOneMoveIsNotTheLast() {
        document.hold("Terms", LAST_PASS);
        CommunityLevels x = gap();
        x.run();
        Checks.same("passes with 3 moves, 1 move and none", x.level(0, 2), 3);
    }

    private void aMoveOfTheLastNodeIsOneOfThePass() {
        document.hold("Terms", LAST_PASS);
        CommunityLevels x = Graphs.star(40);
        x.run();
        Checks.same("whose move is the last one", x.move(38, 1), 39);
        Checks.same("passes with 39 moves and none", x.level(0, 2), 2);
    }

    private void manyPasses() {
        document.hold("Terms", LAST_PASS);
        CommunityLevels x = Graphs.of(39, LONG);
        PlainModel plain = new PlainModel();
        plain.nodes(39);
        for (int i = 0; i < LONG.length; i += 3) {
            plain.weigh(LONG[i], LONG[i + 1], LONG[i + 2]);
        }
        Checks.same("run()", x.run(), plain.run());
        for (int level = 0; level < plain.levels(); level++) {
            Checks.same("passes of level " + level, x.level(level, 2), plain.level(level, 2));
            Checks.same("moves of level " + level, x.level(level, 3), plain.level(level, 3));
            Checks.same("modularity(" + level + ")", x.modularity(level), plain.modularity(level));
        }
        Checks.same("passes of level 0", x.level(0, 2), 178);
    }

    /** 3 is numbered 1 then, and 1 is numbered 2. */
    private void numbersByLeastNodes() {
        document.hold("Terms", NUMBERED);
        CommunityLevels x = gap();
        x.run();
        Told.levelIs(x, 0, "5 3 3 4", "0 1 2 1 1", 246);
        Told.levelIs(x, 1, "3 3 1 0", "0 1 2 1 1", 246);
    }

    private void numbersFrom0On() {
        document.hold("Terms", NUMBERED);
        CommunityLevels one = Graphs.star(40);
        one.run();
        Checks.same("the only community was 1", one.move(38, 3), 1);
        Checks.same("it is 0 then, first node", one.community(0, 0), 0);
        Checks.same("it is 0 then, last node", one.community(0, 39), 0);
        CommunityLevels most = Graphs.of(40, 38, 39, 1);
        most.run();
        for (int i = 0; i < 40; i++) {
            Checks.same("39 communities, node " + i, most.community(0, i), Math.min(i, 38));
        }
    }

    private void aNextLevelOfOneNode() {
        document.hold("Terms", NEXT);
        CommunityLevels x = Graphs.star(40);
        Checks.same("run()", x.run(), 2);
        Checks.same("nodes of level 1", x.level(1, 0), 1);
        Checks.same("U, when the loop is all of M", x.modularity(1), 0);
    }

    /** Weights of 2 and 3 between {3, 6} and {4, 5} are 5 there, and loops are what is inside. */
    private void sumsOfWeightsAreTheNextOnes() {
        document.hold("Terms", NEXT);
        CommunityLevels x = lateLeaver();
        Checks.same("run()", x.run(), 3);
        Told.levelIs(x, 0, "7 4 2 4", "0 1 1 2 3 3 2", 766);
        Told.levelIs(x, 1, "4 3 3 3", "0 1 1 2 2 2 2", 886);
        Told.levelIs(x, 2, "3 3 1 0", "0 1 1 2 2 2 2", 886);
    }

    /** M is 2^29 - 1: two pairs with 200000000 inside, twice 68435455 between them, a loop of 1. */
    private void greatestSumsOnTheNextLevel() {
        document.hold("Terms", NEXT);
        long m = Graphs.MOST_M;
        CommunityLevels x = Graphs.of(4, 0, 1, 200000000, 2, 3, 200000000, 0, 2, 68435455, 1, 3, 68435455, 0, 0, 1);
        Checks.same("M", x.about(1, 0), m);
        Checks.same("run()", x.run(), 2);
        long u = 4 * m * 400000001 - 536870912L * 536870912L - 536870910L * 536870910L;
        Told.movesAre(x, "0/0:0>1+" + (4 * m * 200000000 - 2 * 268435457L * 268435455L),
            "0/2:2>3+" + (4 * m * 200000000 - 2 * 268435455L * 268435455L));
        Told.levelIs(x, 0, "4 2 2 2", "0 0 1 1", u);
        Told.levelIs(x, 1, "2 2 1 0", "0 0 1 1", u);
    }

    private void level0IsTheLastOne() {
        document.hold("Terms", LAST_LEVEL);
        Checks.same("one node, no weight: run()", Graphs.of(1).run(), 1);
        Checks.same("one node, the greatest loop: run()", Graphs.of(1, 0, 0, Graphs.MOST_M).run(), 1);
        Checks.same("40 nodes, no weight: run()", Graphs.of(40).run(), 1);
        Checks.same("40 nodes, loops: run()", Graphs.loops(13421772).run(), 1);
    }

    private void aLaterLevelIsTheLastOne() {
        document.hold("Terms", LAST_LEVEL);
        CommunityLevels x = Graphs.ring(33);
        Checks.same("run()", x.run(), 4);
        for (int level = 0; level < 4; level++) {
            Checks.same("has level " + level + " a move", x.level(level, 3) > 0 ? 1 : 0, level < 3 ? 1 : 0);
        }
        Checks.same("passes of the last one", x.level(3, 2), 1);
        Checks.same("as many communities as nodes", x.level(3, 1), x.level(3, 0));
        Checks.same("U as before", x.modularity(3), x.modularity(2));
    }

    void all() {
        level0OfTheLastNumbers();
        level0IsNotOnesOwnPartition();
        allNodesInTheirOrder();
        noCommunityToChoose();
        aWeightThatIs0Again();
        aCommunityWithoutAWeightIsNoChoice();
        theGreatestNotTheFirstAbove0();
        ofSeveralTheFirst();
        theFirstByNumberNotByNode();
        aNewOneComesAfterAllOthers();
        theLeastFreeNumberIs0();
        theLeastFreeNumberIsBetweenOthers();
        theLeastFreeNumberInASecondRun();
        aNewOneOnALaterLevel();
        oneOfTwoLeaves();
        intoTheLeastNumber();
        aloneItStays();
        aGainOf0();
        aGainOf0ToBeAlone();
        theLeastGainAbove0();
        aFirstPassWithoutAMove();
        aPassWithOneMoveIsNotTheLast();
        aMoveOfTheLastNodeIsOneOfThePass();
        manyPasses();
        numbersByLeastNodes();
        numbersFrom0On();
        aNextLevelOfOneNode();
        sumsOfWeightsAreTheNextOnes();
        greatestSumsOnTheNextLevel();
        level0IsTheLastOne();
        aLaterLevelIsTheLastOne();
    }
}
