/** Brings matches to a wanted position, phase or score by calls of the face alone. */
final class Tables {
    /** The other player's men, out of the way and partly off: a win then counts once. */
    static final int[] AWAY = {1, 2};
    static final int[] START = {24, 2, 13, 5, 8, 3, 6, 5};

    private Tables() {
    }

    /** A match that has come to a phase; player 0 began, and where it is over, he won it. */
    static TablesMatch inPhase(int phase) {
        TablesMatch x = new TablesMatch(phase == HandWritten.OVER ? 1 : 5);
        switch (phase) {
            case HandWritten.ROLLING -> pass(x);
            case HandWritten.MOVING -> x.roll(3, 1);
            case HandWritten.ANSWERING -> {
                pass(x);
                x.offer();
            }
            case HandWritten.OVER -> winOnce(x, 0);
            default -> { }
        }
        if (x.phase() != phase) {
            throw new IllegalStateException("phase " + phase + " not reached");
        }
        return x;
    }

    /** In the OPENING: the player wins a game that counts once, by his last man. */
    static int winOnce(TablesMatch x, int player) {
        return win(x, player, AWAY);
    }

    /** In the OPENING: the player wins by his last man, while the other one's stand as told. */
    static int win(TablesMatch x, int player, int[] loser) {
        int[] winner = {1, 1};
        set(x, player == 0 ? winner : loser, player == 0 ? loser : winner);
        x.roll(player == 0 ? 2 : 1, player == 0 ? 1 : 2);
        return x.step(0);
    }

    /** In the OPENING: the player gets a point, in as few calls as can be. */
    static void scoreOne(TablesMatch x, int player) {
        if (x.crawford()) {
            winOnce(x, player);
            return;
        }
        x.roll(player == 1 ? 2 : 1, player == 1 ? 1 : 2);
        playOut(x);
        dropped(x);
    }

    /** The player on turn, or in the OPENING player 0, rolls 2 1 and moves until his turn is over. */
    static void pass(TablesMatch x) {
        x.roll(2, 1);
        playOut(x);
    }

    /** The player on turn offers, the other one takes. */
    static void doubled(TablesMatch x) {
        if (!x.offer() || x.answer(true) != 0) {
            throw new IllegalStateException("not doubled");
        }
    }

    /** The player on turn offers, the other one drops. */
    static int dropped(TablesMatch x) {
        x.offer();
        return x.answer(false);
    }

    /** What all calls that change nothing answer. */
    static int[] state(TablesMatch x) {
        int[] row = new int[69];
        int[] single = {x.phase(), x.turn(), x.cube(), x.owner(), x.crawford() ? 1 : 0, x.ways(), x.due()};
        System.arraycopy(single, 0, row, 0, single.length);
        int n = single.length;
        for (int die = 1; die <= 6; die++) {
            row[n++] = x.left(die);
        }
        for (int player = 0; player < 2; player++) {
            row[n++] = x.points(player);
            row[n++] = x.pips(player);
            for (int point = 0; point <= 25; point++) {
                row[n++] = x.men(player, point);
            }
        }
        return row;
    }

    /** Rows of point, men, point, men ... for each player; all his other men are off. */
    static TablesMatch match(int length, int[] zero, int[] one) {
        TablesMatch x = new TablesMatch(length);
        set(x, zero, one);
        return x;
    }

    static void set(TablesMatch x, int[] zero, int[] one) {
        for (int player = 0; player < 2; player++) {
            x.place(player, 24, 0);
            x.place(player, 13, 0);
            x.place(player, 8, 0);
            x.place(player, 6, 1);
        }
        // twice: a man still on 6 may stand where the other one's are wanted
        for (int pass = 0; pass < 2; pass++) {
            put(x, 0, zero);
            put(x, 1, one);
        }
        demand(x, 0, zero);
        demand(x, 1, one);
    }

    static int wantedAt(int[] row, int point) {
        for (int i = 0; i < row.length; i += 2) {
            if (row[i] == point) {
                return row[i + 1];
            }
        }
        return 0;
    }

    private static void put(TablesMatch x, int player, int[] row) {
        for (int i = 0; i < row.length; i += 2) {
            // one man less first: the fifteenth may still stand on 6
            x.place(player, row[i], row[i + 1] - 1);
            x.place(player, row[i], row[i + 1]);
        }
        if (wantedAt(row, 6) == 0) {
            x.place(player, 6, 0);
        }
    }

    /** Few calls, since an object has but 512: his men are where they are wanted, and the rest is off. */
    private static void demand(TablesMatch x, int player, int[] row) {
        int off = 15;
        boolean set = true;
        for (int i = 0; i < row.length; i += 2) {
            set = set && x.men(player, row[i]) == row[i + 1];
            off -= row[i + 1];
        }
        if (!set || x.men(player, 0) != off) {
            throw new IllegalStateException("position of player " + player + " not set");
        }
    }

    /** The player on turn makes the first right moves until his turn or game is over. */
    static int playOut(TablesMatch x) {
        int last = 0;
        for (int i = 0; i < 4 && x.phase() == 2; i++) {
            last = x.step(0);
        }
        return last;
    }
}
