import java.util.Arrays;

/** Promises 1 to 3: a new object, nodes, weigh. */
public final class SettingTest {
    private SettingTest() {
    }

    private static void promise1NewObject() {
        CommunityLevels x = new CommunityLevels();
        Checks.same("new: N", x.about(0, 0), 1);
        Checks.same("new: M", x.about(1, 0), 0);
        Checks.same("new: degree", x.about(2, 0), 0);
        Checks.same("new: loop", x.about(3, 0), 0);
        Checks.same("new: community", x.about(4, 0), 0);
        Checks.same("new: levels()", x.levels(), 0);
        Checks.same("new: moves()", x.moves(), 0);
        Checks.same("new: own()", x.own(), 0);
        Checks.noIndex("new: level(0, 0)", () -> x.level(0, 0));
        Checks.noIndex("new: about(2, 1)", () -> x.about(2, 1));
        Checks.same("new: run()", x.run(), 1);
        Checks.same("new and run: community(0, 0)", x.community(0, 0), 0);
        Checks.same("new and run: communities", x.level(0, 1), 1);
    }

    private static void promise2NodesMakesAllNew() {
        CommunityLevels x = Graphs.triangles();
        x.weigh(1, 1, 9);
        x.run();
        x.place(2, 5);
        x.nodes(6);
        CommunityLevels fresh = Graphs.of(6);
        Checks.same("nodes(6) anew", Told.all(x), Told.all(fresh));
        Checks.same("nodes(6): the old weight", x.weigh(0, 1, 3), 0);
        for (int i = 0; i < 6; i++) {
            Checks.same("nodes(6): own community of " + i, x.about(4, i), i);
        }
        x.run();
        x.nodes(6);
        Checks.same("nodes as many as before: levels()", x.levels(), 0);
        Checks.same("nodes as many as before: M", x.about(1, 0), 0);
    }

    private static void promise2NodesFewerAndMore() {
        CommunityLevels x = Graphs.triangles();
        x.nodes(2);
        Checks.noIndex("nodes(2): about(2, 2)", () -> x.about(2, 2));
        x.nodes(40);
        Checks.same("nodes(40): N", x.about(0, 0), 40);
        Checks.same("nodes(40): own community of 39", x.about(4, 39), 39);
        Checks.same("nodes(40): the weight 3, 4 is gone", x.weigh(3, 4, 0), 0);
        x.nodes(1);
        Checks.same("nodes(1): N", x.about(0, 0), 1);
    }

    private static void promise2WrongNodes() {
        int[] wrong = {0, -1, 41, Integer.MIN_VALUE, Integer.MAX_VALUE};
        for (int n : wrong) {
            CommunityLevels x = Graphs.triangles();
            x.run();
            String before = Told.all(x);
            Checks.noArgument("nodes(" + n + ")", Checks.of(() -> x.nodes(n)));
            Checks.same("after nodes(" + n + ")", Told.all(x), before);
        }
    }

    private static void promise3WeighAnswersWhatItWas() {
        CommunityLevels x = Graphs.of(3);
        Checks.same("weigh(0, 1, 5)", x.weigh(0, 1, 5), 0);
        Checks.same("weigh(1, 0, 7)", x.weigh(1, 0, 7), 5);
        Checks.same("weigh(0, 1, 7)", x.weigh(0, 1, 7), 7);
        Checks.same("weigh(2, 2, 4)", x.weigh(2, 2, 4), 0);
        Checks.same("weigh(2, 2, 3)", x.weigh(2, 2, 3), 4);
        Checks.same("M", x.about(1, 0), 10);
        Checks.same("degree of 0", x.about(2, 0), 7);
        Checks.same("degree of 1", x.about(2, 1), 7);
        Checks.same("degree of 2", x.about(2, 2), 6);
        Checks.same("weigh(1, 0, 0)", x.weigh(1, 0, 0), 7);
        Checks.same("M without 7", x.about(1, 0), 3);
        Checks.same("weigh(0, 1, 0)", x.weigh(0, 1, 0), 0);
    }

    private static void promise3WeighEndsWhatWasRun() {
        CommunityLevels x = Graphs.triangles();
        x.place(0, 4);
        x.run();
        x.weigh(0, 1, 1);
        Checks.same("weigh to the same: levels()", x.levels(), 0);
        Checks.same("weigh to the same: moves()", x.moves(), 0);
        Checks.noIndex("weigh to the same: modularity(0)", () -> x.modularity(0));
        Checks.noIndex("weigh to the same: gained(0)", () -> x.gained(0));
        Checks.noIndex("weigh to the same: take(0)", Checks.of(() -> x.take(0)));
        Checks.same("one's own partition stays", x.about(4, 0), 4);
        Checks.same("run() again", x.run(), 2);
    }

    private static void promise3MIsBelow2To29() {
        CommunityLevels x = Graphs.of(2);
        Checks.noArgument("weigh(0, 1, 2^29)", () -> x.weigh(0, 1, 536870912));
        Checks.same("weigh(0, 1, 2^29 - 1)", x.weigh(0, 1, 536870911), 0);
        Checks.noArgument("one more", () -> x.weigh(0, 0, 1));
        Checks.noArgument("far more", () -> x.weigh(1, 1, Integer.MAX_VALUE));
        Checks.same("the same once more", x.weigh(0, 1, 536870911), 536870911);
        Checks.same("one less", x.weigh(0, 1, 536870910), 536870911);
        Checks.same("a loop of 1", x.weigh(1, 1, 1), 0);
        Checks.same("M", x.about(1, 0), 536870911);
        Checks.same("degree of 1", x.about(2, 1), 536870912);
        CommunityLevels y = new CommunityLevels();
        y.weigh(0, 0, 536870911);
        Checks.same("degree of a loop alone", y.about(2, 0), 1073741822);
        Checks.same("its U", y.own(), 0);
    }

    private static void promise3WrongWeighs() {
        int[][] noNode = {{6, 0, 1}, {0, 6, 1}, {-1, 0, 1}, {0, -1, 1}, {6, 0, -1}, {0, 6, 1 << 29},
            {Integer.MAX_VALUE, 0, 0}, {0, Integer.MIN_VALUE, 0}};
        for (int[] w : noNode) {
            CommunityLevels x = Graphs.triangles();
            x.run();
            String before = Told.all(x);
            Checks.noIndex("weigh" + Arrays.toString(w), () -> x.weigh(w[0], w[1], w[2]));
            Checks.same("after weigh" + Arrays.toString(w), Told.all(x), before);
        }
        int[] noWeight = {-1, Integer.MIN_VALUE, 1 << 29, Integer.MAX_VALUE, (1 << 29) - 6};
        for (int w : noWeight) {
            CommunityLevels x = Graphs.triangles();
            x.run();
            String before = Told.all(x);
            Checks.noArgument("weigh(0, 1, " + w + ")", () -> x.weigh(0, 1, w));
            Checks.same("after weigh(0, 1, " + w + ")", Told.all(x), before);
        }
    }

    public static void main(String[] args) {
        promise1NewObject();
        promise2NodesMakesAllNew();
        promise2NodesFewerAndMore();
        promise2WrongNodes();
        promise3WeighAnswersWhatItWas();
        promise3WeighEndsWhatWasRun();
        promise3MIsBelow2To29();
        promise3WrongWeighs();
        Checks.end();
    }
}
