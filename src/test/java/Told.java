/** What an object tells, as one text or compared with what is due. */
final class Told {
    private Told() {
    }

    /** All that it tells and leaves as it is: of six nodes some 130 calls. */
    static String all(CommunityLevels x) {
        StringBuilder text = new StringBuilder();
        int n = x.about(0, 0);
        text.append("N ").append(n).append(" M ").append(x.about(1, 0));
        for (int i = 0; i < n; i++) {
            text.append(" d").append(x.about(2, i)).append(" l").append(x.about(3, i)).append(" c").append(x.about(4, i));
            for (int c = 0; c < n; c++) {
                text.append(" g").append(x.gain(i, c));
            }
        }
        text.append(" own ").append(x.own()).append(' ').append(ran(x));
        return text.toString();
    }

    private static String ran(CommunityLevels x) {
        StringBuilder text = new StringBuilder();
        int levels = x.levels();
        int n = x.about(0, 0);
        text.append("levels ").append(levels);
        for (int l = 0; l < levels; l++) {
            text.append(" u").append(x.modularity(l));
            for (int what = 0; what < 4; what++) {
                text.append(' ').append(x.level(l, what));
            }
            for (int i = 0; i < n; i++) {
                text.append(" c").append(x.community(l, i));
            }
        }
        int moves = x.moves();
        text.append(" moves ").append(moves);
        for (int k = 0; k < Math.min(400, moves); k++) {
            text.append(' ').append(moveText(x, k));
        }
        return text.toString();
    }

    static String moveText(CommunityLevels x, int k) {
        return x.move(k, 0) + "/" + x.move(k, 1) + ":" + x.move(k, 2) + ">" + x.move(k, 3) + "+" + x.gained(k);
    }

    /** All weights, as weigh answers them; all of them are 0 then. */
    static String weightsTakenOut(CommunityLevels x) {
        StringBuilder text = new StringBuilder("weights");
        int n = x.about(0, 0);
        for (int a = 0; a < n; a++) {
            for (int b = a; b < n; b++) {
                text.append(' ').append(x.weigh(a, b, 0));
            }
        }
        return text.toString();
    }

    static String own(CommunityLevels x) {
        StringBuilder text = new StringBuilder();
        int n = x.about(0, 0);
        for (int i = 0; i < n; i++) {
            text.append(i == 0 ? "" : " ").append(x.about(4, i));
        }
        return text.toString();
    }

    /** The facts of a level are written as NODES COMMUNITIES PASSES MOVES. */
    static void levelIs(CommunityLevels x, int level, String facts, String communities, long u) {
        StringBuilder got = new StringBuilder();
        for (int what = 0; what < 4; what++) {
            got.append(what == 0 ? "" : " ").append(x.level(level, what));
        }
        Checks.same("level(" + level + ", 0 .. 3)", got.toString(), facts);
        got.setLength(0);
        int n = x.about(0, 0);
        for (int i = 0; i < n; i++) {
            got.append(i == 0 ? "" : " ").append(x.community(level, i));
        }
        Checks.same("community(" + level + ", ..)", got.toString(), communities);
        Checks.same("modularity(" + level + ")", x.modularity(level), u);
    }

    /** A move is written as LEVEL/NODE:FROM>INTO+GAIN. */
    static void movesAre(CommunityLevels x, String... due) {
        Checks.same("moves()", x.moves(), due.length);
        for (int k = 0; k < Math.min(due.length, x.moves()); k++) {
            Checks.same("move " + k, moveText(x, k), due[k]);
        }
        Checks.noIndex("the move after the last", () -> x.move(due.length, 0));
        Checks.noIndex("the gain after the last", () -> x.gained(due.length));
    }
}
