/** Promises 12 to 16: one's own partition, and about; the answers are reckoned by hand. */
public final class OwnTest {
    private static final int[] WRONG = {-1, 6, 40, Integer.MAX_VALUE, Integer.MIN_VALUE};

    private OwnTest() {
    }

    private static void promise12Place() {
        CommunityLevels x = Graphs.triangles();
        x.run();
        Checks.same("place(0, 5)", x.place(0, 5), 0);
        Checks.same("place(0, 5) again", x.place(0, 5), 5);
        Checks.same("place(0, 0)", x.place(0, 0), 5);
        Checks.same("place(5, 0)", x.place(5, 0), 5);
        Checks.same("community of 5", x.about(4, 5), 0);
        Checks.same("community of 0", x.about(4, 0), 0);
        Checks.same("place leaves what was run", x.levels(), 2);
        Checks.same("place leaves the levels' partitions", x.community(0, 5), 1);
        Checks.same("place leaves the levels' U", x.modularity(0), 70);
    }

    private static void promise13Take() {
        CommunityLevels x = Graphs.ring(16);
        x.run();
        for (int level = 0; level < 3; level++) {
            x.take(level);
            for (int i = 0; i < 16; i++) {
                Checks.same("take(" + level + "): community of " + i, x.about(4, i), x.community(level, i));
            }
            Checks.same("take(" + level + "): own()", x.own(), x.modularity(level));
        }
        x.place(0, 9);
        Checks.same("place after take leaves the level", x.community(2, 0), 0);
        x.take(0);
        x.weigh(0, 0, 1);
        Checks.same("what was taken stays", x.about(4, 15), 7);
    }

    /** M is 7, the degrees are 2 2 3 3 2 2. */
    private static void promise14Own() {
        CommunityLevels x = Graphs.triangles();
        Checks.same("each by itself: own()", x.own(), -34);
        x.place(1, 0);
        Checks.same("0 and 1 together: own()", x.own(), -34 + 28 - 8);
        for (int i = 0; i < 6; i++) {
            x.place(i, 5);
        }
        Checks.same("all together: own()", x.own(), 0);
        x.weigh(0, 0, 3);
        Checks.same("all together with a loop: own()", x.own(), 0);
        x.place(0, 2);
        Checks.same("the loop by itself: own()", x.own(), 40 * 3 - 64 + 40 * 5 - 144);
        CommunityLevels empty = Graphs.of(3);
        empty.place(0, 1);
        Checks.same("M 0: own()", empty.own(), 0);
    }

    private static void promise14LargestNumbers() {
        CommunityLevels x = Graphs.of(2, 0, 1, 536870911);
        Checks.same("largest: own() apart", x.own(), -2L * 536870911L * 536870911L);
        Checks.same("largest: gain(0, 1)", x.gain(0, 1), 2L * 536870911L * 536870911L);
        x.place(0, 1);
        Checks.same("largest: own() together", x.own(), 0);
        Checks.same("largest: gain(0, 0)", x.gain(0, 0), -2L * 536870911L * 536870911L);
        x.nodes(1);
        x.weigh(0, 0, 536870911);
        Checks.same("largest loop: own()", x.own(), 0);
    }

    private static void promise15Gain() {
        CommunityLevels x = Graphs.triangles();
        Checks.same("gain(0, 1)", x.gain(0, 1), 28 - 8);
        Checks.same("gain(0, 0)", x.gain(0, 0), 0);
        Checks.same("gain(0, 3): no weight between them", x.gain(0, 3), -12);
        x.place(1, 0);
        Checks.same("gain(2, 0)", x.gain(2, 0), 56 - 24);
        Checks.same("gain(0, 1): no node is there", x.gain(0, 1), -20);
        Checks.same("gain(1, 1): no node is there", x.gain(1, 1), -20);
        Checks.same("gain(0, 2)", x.gain(0, 2), -4);
        x.place(0, 3);
        x.place(3, 0);
        Checks.same("gain of one alone into an empty one", x.gain(2, 1), 0);
        Checks.same("gain leaves the partition", x.about(4, 2), 2);
        CommunityLevels loops = Graphs.leaver(4);
        Checks.same("gain with a loop", loops.gain(2, 1), 40 * 4 - 2 * 6 * 9);
        CommunityLevels empty = Graphs.of(2);
        Checks.same("M 0: gain(0, 1)", empty.gain(0, 1), 0);
    }

    private static void promise15GainIsTheDifference() {
        CommunityLevels x = Graphs.leaver(4);
        for (int node = 0; node < 4; node++) {
            for (int c = 0; c < 4; c++) {
                long gain = x.gain(node, c);
                long before = x.own();
                int from = x.place(node, c);
                Checks.same("gain(" + node + ", " + c + ")", gain, x.own() - before);
                Checks.same("back again", x.gain(node, from), -gain);
            }
        }
    }

    private static void promise16About() {
        CommunityLevels x = Graphs.leaver(4);
        Checks.same("about(0, 0)", x.about(0, 0), 4);
        Checks.same("about(1, 0)", x.about(1, 0), 10);
        for (int i : WRONG) {
            Checks.same("about(0, " + i + ")", x.about(0, i), 4);
            Checks.same("about(1, " + i + ")", x.about(1, i), 10);
        }
        int[] degrees = {1, 9, 6, 4};
        for (int i = 0; i < 4; i++) {
            Checks.same("about(2, " + i + ")", x.about(2, i), degrees[i]);
            Checks.same("about(3, " + i + ")", x.about(3, i), i == 2 ? 1 : 0);
            Checks.same("about(4, " + i + ")", x.about(4, i), i);
        }
    }

    private static void wrongIndexes() {
        CommunityLevels x = Graphs.triangles();
        x.run();
        x.take(0);
        String before = Told.all(x);
        for (int i : WRONG) {
            Checks.noIndex("place(" + i + ", 0)", () -> x.place(i, 0));
            Checks.noIndex("place(0, " + i + ")", () -> x.place(0, i));
            Checks.noIndex("gain(" + i + ", 0)", () -> x.gain(i, 0));
            Checks.noIndex("gain(0, " + i + ")", () -> x.gain(0, i));
            Checks.noIndex("take(" + i + ")", Checks.of(() -> x.take(i)));
            for (int what = 2; what < 5; what++) {
                int w = what;
                Checks.noIndex("about(" + w + ", " + i + ")", () -> x.about(w, i));
            }
        }
        for (int what : new int[] {-1, 5, Integer.MAX_VALUE, Integer.MIN_VALUE}) {
            Checks.noIndex("about(" + what + ", 0)", () -> x.about(what, 0));
        }
        Checks.noIndex("take(2)", Checks.of(() -> x.take(2)));
        Checks.same("all after wrong indexes", Told.all(x), before);
    }

    public static void main(String[] args) {
        promise12Place();
        promise13Take();
        promise14Own();
        promise14LargestNumbers();
        promise15Gain();
        promise15GainIsTheDifference();
        promise16About();
        wrongIndexes();
        Checks.end();
    }
}
