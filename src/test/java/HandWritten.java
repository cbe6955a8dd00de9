/** What the hand-written tests share: short names, and one count of the answers. */
abstract class HandWritten {
    static final int NONE = TablesMatch.NONE;
    static final int WRONG = TablesMatch.WRONG;
    static final int MIN = Integer.MIN_VALUE;
    static final int MAX = Integer.MAX_VALUE;
    static final int OPENING = 0;
    static final int ROLLING = 1;
    static final int MOVING = 2;
    static final int ANSWERING = 3;
    static final int OVER = 4;
    /** The other player's men, out of the way and partly off: a win then counts once. */
    static final int[] AWAY = Tables.AWAY;
    static final Checks CHECKS = new Checks();

    static void due(String what, long got, long want) {
        CHECKS.due(what, got, want);
    }

    static void due(String what, boolean got, boolean want) {
        CHECKS.due(what, got, want);
    }

    /** Runs what tests one sentence of the document. */
    static void sentence(String words, Runnable run) {
        CHECKS.sentence(words, run);
    }

    static int[] at(int... row) {
        return row;
    }

    /** The men of a new game. */
    static void startsAnew(String what, TablesMatch x) {
        for (int player = 0; player < 2; player++) {
            for (int point = 0; point <= 25; point++) {
                due(what + ", men " + point, x.men(player, point), Tables.wantedAt(Tables.START, point));
            }
            due(what + ", pips", x.pips(player), 167);
        }
    }
}
