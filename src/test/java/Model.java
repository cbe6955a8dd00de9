import java.util.ArrayList;
import java.util.List;
import java.util.TreeSet;

/**
 * A second, plain model of the document, to compare with: positions are never changed but
 * copied, and right moves are the first moves of all longest ways to use the dice.
 */
final class Model {
    /** A position: points are numbered player 0's way, his men counted above 0, the other's below. */
    static final class Position {
        final int[] cells = new int[25];
        final int[] bar = new int[2];
        final int[] off = new int[2];

        Position copy() {
            Position other = new Position();
            System.arraycopy(cells, 0, other.cells, 0, 25);
            System.arraycopy(bar, 0, other.bar, 0, 2);
            System.arraycopy(off, 0, other.off, 0, 2);
            return other;
        }

        int men(int player, int point) {
            if (point == 0) {
                return off[player];
            }
            if (point == 25) {
                return bar[player];
            }
            return player == 0 ? Math.max(0, cells[point]) : Math.max(0, -cells[25 - point]);
        }

        void add(int player, int point, int n) {
            if (point == 0) {
                off[player] += n;
            } else if (point == 25) {
                bar[player] += n;
            } else if (player == 0) {
                cells[point] += n;
            } else {
                cells[25 - point] -= n;
            }
        }

        /** The position after a move, null when it can't be made. */
        Position after(int player, int from, int die) {
            if (from < 1 || from > 25 || men(player, from) == 0) {
                return null;
            }
            if (from < 25 && bar[player] > 0) {
                return null;
            }
            Position next = copy();
            next.add(player, from, -1);
            if (from > die) {
                int to = from - die;
                int others = men(1 - player, 25 - to);
                if (others > 1) {
                    return null;
                }
                if (others == 1) {
                    next.add(1 - player, 25 - to, -1);
                    next.add(1 - player, 25, 1);
                }
                next.add(player, to, 1);
                return next;
            }
            for (int point = 7; point <= 25; point++) {
                if (men(player, point) > 0) {
                    return null;
                }
            }
            for (int point = from + 1; from < die && point <= 6; point++) {
                if (men(player, point) > 0) {
                    return null;
                }
            }
            next.add(player, 0, 1);
            return next;
        }
    }

    static Position start() {
        Position position = new Position();
        int[][] men = {{24, 2}, {13, 5}, {8, 3}, {6, 5}};
        for (int player = 0; player < 2; player++) {
            for (int[] row : men) {
                position.add(player, row[0], row[1]);
            }
        }
        return position;
    }

    static List<Integer> without(List<Integer> dice, int die) {
        List<Integer> rest = new ArrayList<>(dice);
        rest.remove(Integer.valueOf(die));
        return rest;
    }

    static int due(Position position, int player, List<Integer> dice) {
        int most = 0;
        for (int die : new TreeSet<>(dice)) {
            for (int from = 1; from <= 25 && most < dice.size(); from++) {
                Position next = position.after(player, from, die);
                if (next != null) {
                    most = Math.max(most, 1 + due(next, player, without(dice, die)));
                }
            }
        }
        return most;
    }

    /** All right moves {from, die}, in the order of step. */
    static List<int[]> right(Position position, int player, List<Integer> dice) {
        int due = due(position, player, dice);
        List<int[]> found = new ArrayList<>();
        int greatest = 0;
        for (int from = 25; from >= 1; from--) {
            for (int die : new TreeSet<>(dice).descendingSet()) {
                Position next = position.after(player, from, die);
                if (next != null && due(next, player, without(dice, die)) == due - 1) {
                    found.add(new int[] {from, die});
                    greatest = Math.max(greatest, die);
                }
            }
        }
        if (due == 1) {
            int only = greatest;
            found.removeIf(move -> move[1] != only);
        }
        return found;
    }

    final int length;
    Position position = start();
    List<Integer> dice = new ArrayList<>();
    final int[] points = new int[2];
    int phase = 0;
    int turn = -1;
    int cube = 1;
    int owner = -1;
    boolean crawford = false;
    private boolean reached = false;

    Model(int length) {
        this.length = length < 1 ? 1 : length > 25 ? 25 : length;
    }

    boolean place(int player, int point, int n) {
        if (phase != 0 || player < 0 || player > 1 || point < 1 || point > 24 || n < 0 || n > 15) {
            return false;
        }
        if (n > 0 && position.men(1 - player, 25 - point) > 0) {
            return false;
        }
        Position next = position.copy();
        int had = next.men(player, point);
        next.add(player, point, n - had);
        next.add(player, 0, had - n);
        if (next.off[player] < 0 || next.off[player] > 14) {
            return false;
        }
        position = next;
        return true;
    }

    int roll(int a, int b) {
        if (phase > 1 || a < 1 || a > 6 || b < 1 || b > 6) {
            return -1;
        }
        if (phase == 0 && a == b) {
            return 0;
        }
        if (phase == 0) {
            turn = a > b ? 0 : 1;
        }
        dice = new ArrayList<>(a == b ? List.of(a, a, a, a) : List.of(a, b));
        phase = 2;
        return passIfDone();
    }

    int move(int from, int die) {
        if (phase != 2) {
            return -1;
        }
        for (int[] move : right(position, turn, dice)) {
            if (move[0] == from && move[1] == die) {
                return play(from, die);
            }
        }
        return -2;
    }

    int step(int k) {
        if (phase != 2) {
            return -1;
        }
        List<int[]> moves = right(position, turn, dice);
        return k < 0 || k >= moves.size() ? -2 : play(moves.get(k)[0], moves.get(k)[1]);
    }

    int ways() {
        return phase == 2 ? right(position, turn, dice).size() : 0;
    }

    int due() {
        return phase == 2 ? due(position, turn, dice) : 0;
    }

    int left(int die) {
        int count = 0;
        for (int one : dice) {
            count += one == die ? 1 : 0;
        }
        return phase == 2 ? count : 0;
    }

    boolean offer() {
        if (phase != 1 || (owner >= 0 && owner != turn) || cube >= 64 || crawford) {
            return false;
        }
        phase = 3;
        turn = 1 - turn;
        return true;
    }

    int answer(boolean take) {
        if (phase != 3) {
            return -1;
        }
        if (!take) {
            return win(1 - turn, cube);
        }
        owner = turn;
        turn = 1 - turn;
        cube = 2 * cube;
        phase = 1;
        return 0;
    }

    int men(int player, int point) {
        return player < 0 || player > 1 || point < 0 || point > 25 ? -1 : position.men(player, point);
    }

    int pips(int player) {
        if (player < 0 || player > 1) {
            return -1;
        }
        int sum = 0;
        for (int point = 1; point <= 25; point++) {
            sum += point * position.men(player, point);
        }
        return sum;
    }

    int points(int player) {
        return player < 0 || player > 1 ? -1 : points[player];
    }

    private int play(int from, int die) {
        position = position.after(turn, from, die);
        dice = without(dice, die);
        return position.off[turn] == 15 ? win(turn, cube * times(1 - turn)) : passIfDone();
    }

    private int times(int loser) {
        if (position.off[loser] > 0) {
            return 1;
        }
        int far = position.bar[loser];
        for (int point = 1; point <= 6; point++) {
            far += position.men(loser, 25 - point);
        }
        return far > 0 ? 3 : 2;
    }

    private int passIfDone() {
        int due = due();
        if (due == 0) {
            phase = 1;
            turn = 1 - turn;
            dice = new ArrayList<>();
        }
        return due;
    }

    private int win(int winner, int gain) {
        points[winner] += gain;
        crawford = false;
        if (points[winner] >= length) {
            phase = 4;
            turn = winner;
            return 10 * gain;
        }
        if (points[winner] == length - 1 && !reached) {
            reached = true;
            crawford = true;
        }
        position = start();
        cube = 1;
        owner = -1;
        phase = 0;
        turn = -1;
        return 10 * gain;
    }
}
