import java.util.function.ToLongFunction;

/** A call that throws in every state, and the check that the object is then as one without it. */
record RefusedCall(String name, boolean isIndex, ToLongFunction<CommunityLevels> call) {
    enum State {
        NEW, NOT_RUN, RUN, RUN_WITHOUT_WEIGHTS;

        CommunityLevels make() {
            if (this == NEW) {
                return new CommunityLevels();
            }
            CommunityLevels x = this == RUN_WITHOUT_WEIGHTS ? Graphs.of(6) : Graphs.triangles();
            if (this != NOT_RUN) {
                x.run();
                x.take(0);
            }
            x.place(5, 4);
            return x;
        }
    }

    static final RefusedCall[] ALL = {
        argument("nodes(0)", x -> nodes(x, 0)),
        argument("nodes(41)", x -> nodes(x, 41)),
        index("weigh(-1, 0, 1)", x -> x.weigh(-1, 0, 1)),
        index("weigh(0, 40, 1)", x -> x.weigh(0, 40, 1)),
        argument("weigh(0, 0, -1)", x -> x.weigh(0, 0, -1)),
        argument("weigh(0, 0, 2^29)", x -> x.weigh(0, 0, 1 << 29)),
        index("level(-1, 0)", x -> x.level(-1, 0)),
        index("level(0, 4)", x -> x.level(0, 4)),
        index("community(40, 0)", x -> x.community(40, 0)),
        index("community(0, -1)", x -> x.community(0, -1)),
        index("modularity(-1)", x -> x.modularity(-1)),
        index("move(400, 0)", x -> x.move(400, 0)),
        index("move(0, -1)", x -> x.move(0, -1)),
        index("gained(-1)", x -> x.gained(-1)),
        index("place(-1, 0)", x -> x.place(-1, 0)),
        index("place(0, 40)", x -> x.place(0, 40)),
        index("take(-1)", x -> take(x, -1)),
        index("take(40)", x -> take(x, 40)),
        index("gain(40, 0)", x -> x.gain(40, 0)),
        index("gain(0, -1)", x -> x.gain(0, -1)),
        index("about(5, 0)", x -> x.about(5, 0)),
        index("about(-1, 0)", x -> x.about(-1, 0)),
        index("about(4, 40)", x -> x.about(4, 40))};

    private static RefusedCall index(String name, ToLongFunction<CommunityLevels> call) {
        return new RefusedCall(name, true, call);
    }

    private static RefusedCall argument(String name, ToLongFunction<CommunityLevels> call) {
        return new RefusedCall(name, false, call);
    }

    private static long nodes(CommunityLevels x, int n) {
        x.nodes(n);
        return 0;
    }

    private static long take(CommunityLevels x, int level) {
        x.take(level);
        return 0;
    }

    void check(State state) {
        CommunityLevels x = state.make();
        String call = name + " when " + state;
        if (isIndex) {
            Checks.noIndex(call, () -> this.call.applyAsLong(x));
        } else {
            Checks.noArgument(call, () -> this.call.applyAsLong(x));
        }
        CommunityLevels same = state.make();
        Checks.same("all after " + call, Told.all(x), Told.all(same));
        Checks.same("weights after " + call, Told.weightsTakenOut(x), Told.weightsTakenOut(same));
    }
}
