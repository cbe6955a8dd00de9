/** Makes matches with a wanted position, by calls of place alone. */
final class Tables {
    private Tables() {
    }

    /** Rows of point, men, point, men ... for each player; all his other men are off. */
    static TablesMatch match(int length, int[] zero, int[] one) {
        TablesMatch x = new TablesMatch(length);
        set(x, zero, one);
        return x;
    }

    static void set(TablesMatch x, int[] zero, int[] one) {
        for (int player = 0; player < 2; player++) {
            x.place(player, 24, 0);
            x.place(player, 13, 0);
            x.place(player, 8, 0);
            x.place(player, 6, 1);
        }
        // twice: a man still on 6 may stand where the other one's are wanted
        for (int pass = 0; pass < 2; pass++) {
            put(x, 0, zero);
            put(x, 1, one);
        }
        demand(x, 0, zero);
        demand(x, 1, one);
    }

    static int wantedAt(int[] row, int point) {
        for (int i = 0; i < row.length; i += 2) {
            if (row[i] == point) {
                return row[i + 1];
            }
        }
        return 0;
    }

    private static void put(TablesMatch x, int player, int[] row) {
        for (int i = 0; i < row.length; i += 2) {
            // one man less first: the fifteenth may still stand on 6
            x.place(player, row[i], row[i + 1] - 1);
            x.place(player, row[i], row[i + 1]);
        }
        if (wantedAt(row, 6) == 0) {
            x.place(player, 6, 0);
        }
    }

    private static void demand(TablesMatch x, int player, int[] row) {
        for (int point = 1; point <= 24; point++) {
            if (x.men(player, point) != wantedAt(row, point)) {
                throw new IllegalStateException("position not set: player " + player
                    + ", point " + point + " has " + x.men(player, point));
            }
        }
    }

    /** The player on turn makes the first right moves until his turn or game is over. */
    static int playOut(TablesMatch x) {
        int last = 0;
        for (int i = 0; i < 4 && x.phase() == 2; i++) {
            last = x.step(0);
        }
        return last;
    }
}
