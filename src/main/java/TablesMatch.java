/**
 * A match on a backgammon board: rolls, right moves, hits, bearing off, the cube,
 * the count of points, and exact chances for the last two men of each side in a race.
 */
public final class TablesMatch {
    /** It is not the phase for it, or a number is out of its range. */
    public static final int NONE = -1;
    /** It is no right move. */
    public static final int WRONG = -2;

    private static final int OPENING = 0;
    private static final int ROLLING = 1;
    private static final int MOVING = 2;
    private static final int ANSWERING = 3;
    private static final int OVER = 4;

    private static final int OFF = 0;
    private static final int BAR = 25;
    private static final int LAST_POINT = 24;
    private static final int LAST_HOME_POINT = 6;
    private static final int ALL_MEN = 15;
    private static final int GREATEST_NUMBER = 6;

    private static final int GREATEST_LENGTH = 25;
    private static final int GREATEST_CUBE = 64;
    /** A won game is answered as this many times its points, so that it is no count of dice. */
    private static final int WON = 10;

    /** The men of one player at the start of a game, from OFF to BAR. */
    private static final int[] START = {
        0,
        0, 0, 0, 0, 0, 5,
        0, 3, 0, 0, 0, 0,
        5, 0, 0, 0, 0, 0,
        0, 0, 0, 0, 0, 2,
        0
    };

    private final int length;
    private final int[] score = new int[2];
    private final Board board = new Board();
    private final Hand hand = new Hand(board);
    private final Race race = new Race();
    private int stage;
    /** Who rolls, moves, or has offered a double; the winner when the match is over. */
    private int mover;
    private int stake;
    private int holder;
    private boolean crawfordNow;
    private boolean crawfordSeen;

    public TablesMatch(int length) {
        this.length = Math.max(1, Math.min(GREATEST_LENGTH, length));
        beginGame();
    }

    public boolean place(int player, int point, int n) {
        if (stage != OPENING || !isPlayer(player) || point < 1 || point > LAST_POINT) {
            return false;
        }
        if (n < 0 || n > ALL_MEN) {
            return false;
        }
        return board.putMen(player, point, n);
    }

    public int roll(int a, int b) {
        if (stage != OPENING && stage != ROLLING) {
            return NONE;
        }
        if (!isNumber(a) || !isNumber(b)) {
            return NONE;
        }
        if (stage == OPENING) {
            if (a == b) {
                return 0;
            }
            mover = a > b ? 0 : 1;
        }
        stage = MOVING;
        hand.take(mover, a, b);
        return endTurnIfDone();
    }

    public int move(int from, int die) {
        if (stage != MOVING) {
            return NONE;
        }
        return hand.isRight(from, die) ? play(from, die) : WRONG;
    }

    public int step(int k) {
        if (stage != MOVING) {
            return NONE;
        }
        int before = 0;
        for (int from = BAR; from >= 1; from--) {
            for (int die = GREATEST_NUMBER; die >= 1; die--) {
                if (hand.isRight(from, die)) {
                    if (before == k) {
                        return play(from, die);
                    }
                    before++;
                }
            }
        }
        return WRONG;
    }

    public int ways() {
        return stage == MOVING ? hand.countRight() : 0;
    }

    public int due() {
        return stage == MOVING ? hand.usable : 0;
    }

    public int left(int die) {
        return stage == MOVING && isNumber(die) ? hand.dice[die] : 0;
    }

    public boolean offer() {
        if (stage != ROLLING || crawfordNow || stake >= GREATEST_CUBE || holder == 1 - mover) {
            return false;
        }
        stage = ANSWERING;
        return true;
    }

    public int answer(boolean take) {
        if (stage != ANSWERING) {
            return NONE;
        }
        if (!take) {
            return winGame(stake);
        }
        stake *= 2;
        holder = 1 - mover;
        stage = ROLLING;
        return 0;
    }

    public int phase() {
        return stage;
    }

    public int turn() {
        if (stage == OPENING) {
            return NONE;
        }
        return stage == ANSWERING ? 1 - mover : mover;
    }

    public int men(int player, int point) {
        if (!isPlayer(player) || point < OFF || point > BAR) {
            return NONE;
        }
        return board.rows[player][point];
    }

    public int pips(int player) {
        return isPlayer(player) ? board.countPips(player) : NONE;
    }

    public int cube() {
        return stake;
    }

    public int owner() {
        return holder;
    }

    public int points(int player) {
        return isPlayer(player) ? score[player] : NONE;
    }

    public boolean crawford() {
        return crawfordNow;
    }

    public long chance(int a, int b, int c, int d) {
        if (!isRacePoint(a) || !isRacePoint(b) || !isRacePoint(c) || !isRacePoint(d)) {
            return NONE;
        }
        return race.chanceToRoll(a, b, c, d);
    }

    private static boolean isPlayer(int player) {
        return player == 0 || player == 1;
    }

    private static boolean isNumber(int die) {
        return die >= 1 && die <= GREATEST_NUMBER;
    }

    private static boolean isRacePoint(int point) {
        return point >= OFF && point <= Race.LAST_RACE_POINT;
    }

    private void beginGame() {
        board.setUp();
        stake = 1;
        holder = NONE;
        stage = OPENING;
    }

    /** Makes a move that is known to be right. */
    private int play(int from, int die) {
        hand.use(from, die);
        if (board.rows[mover][OFF] == ALL_MEN) {
            return winGame(stake * board.timesCounted(mover));
        }
        return endTurnIfDone();
    }

    private int endTurnIfDone() {
        if (hand.usable == 0) {
            mover = 1 - mover;
            stage = ROLLING;
        }
        return hand.usable;
    }

    /** The mover wins: a double is dropped only by the other one, and men go off only by moves. */
    private int winGame(int gain) {
        score[mover] += gain;
        crawfordNow = !crawfordSeen && score[mover] == length - 1;
        crawfordSeen = crawfordSeen || crawfordNow;
        if (score[mover] >= length) {
            stage = OVER;
        } else {
            beginGame();
        }
        return WON * gain;
    }

    /** The men of both players, each row numbered its own player's way, from OFF to BAR. */
    private static final class Board {
        final int[][] rows = new int[2][BAR + 1];

        void setUp() {
            System.arraycopy(START, 0, rows[0], 0, START.length);
            System.arraycopy(START, 0, rows[1], 0, START.length);
        }

        boolean putMen(int player, int point, int n) {
            int[] own = rows[player];
            int off = own[OFF] + own[point] - n;
            boolean taken = n > 0 && rows[1 - player][BAR - point] > 0;
            if (taken || off < 0 || off >= ALL_MEN) {
                return false;
            }
            own[OFF] = off;
            own[point] = n;
            return true;
        }

        boolean canMove(int player, int from, int die) {
            if (from < 1 || from > BAR || !isNumber(die)) {
                return false;
            }
            int[] own = rows[player];
            if (own[from] == 0 || (from != BAR && own[BAR] > 0)) {
                return false;
            }
            int to = from - die;
            if (to > OFF) {
                return rows[1 - player][BAR - to] <= 1;
            }
            int rearmost = rearmostPlace(own);
            return rearmost <= LAST_HOME_POINT && (to == OFF || rearmost == from);
        }

        boolean canMoveAny(int player, int die) {
            for (int from = BAR; from >= 1; from--) {
                if (canMove(player, from, die)) {
                    return true;
                }
            }
            return false;
        }

        /** Moves the man alone; what stands on the point he comes to is left to hit(). */
        void shift(int player, int from, int die) {
            rows[player][from]--;
            rows[player][Math.max(OFF, from - die)]++;
        }

        void shiftBack(int player, int from, int die) {
            rows[player][Math.max(OFF, from - die)]--;
            rows[player][from]++;
        }

        void hit(int player, int to) {
            int[] other = rows[1 - player];
            if (to > OFF && other[BAR - to] > 0) {
                other[BAR - to]--;
                other[BAR]++;
            }
        }

        int countPips(int player) {
            int sum = 0;
            for (int point = 1; point <= BAR; point++) {
                sum += point * rows[player][point];
            }
            return sum;
        }

        int timesCounted(int winner) {
            int[] loser = rows[1 - winner];
            if (loser[OFF] > 0) {
                return 1;
            }
            // the winner's home and the loser's bar are the loser's seven farthest places
            return rearmostPlace(loser) >= BAR - LAST_HOME_POINT ? 3 : 2;
        }

        private static int rearmostPlace(int[] own) {
            for (int place = BAR; place >= 1; place--) {
                if (own[place] > 0) {
                    return place;
                }
            }
            return OFF;
        }
    }

    /** The dice that are left to one player, and what the board lets him do with them. */
    private static final class Hand {
        final int[] dice = new int[GREATEST_NUMBER + 1];
        /** DUE. It is kept, since every question for a right move needs it. */
        int usable;
        private final Board board;
        private int player;
        private int count;

        Hand(Board board) {
            this.board = board;
        }

        void take(int roller, int a, int b) {
            for (int die = 1; die <= GREATEST_NUMBER; die++) {
                dice[die] = 0;
            }
            int each = a == b ? 2 : 1;
            dice[a] += each;
            dice[b] += each;
            count = 2 * each;
            player = roller;
            usable = mostUsable(count);
        }

        boolean isRight(int from, int die) {
            if (!isNumber(die) || dice[die] == 0 || !board.canMove(player, from, die)) {
                return false;
            }
            if (usable == 1 && canMoveGreater(die)) {
                return false;
            }
            return mostUsableAfter(from, die, count) == usable - 1;
        }

        int countRight() {
            int right = 0;
            for (int from = BAR; from >= 1; from--) {
                for (int die = GREATEST_NUMBER; die >= 1; die--) {
                    if (isRight(from, die)) {
                        right++;
                    }
                }
            }
            return right;
        }

        /** Only for a right move: by what right means, DUE is then one less. */
        void use(int from, int die) {
            board.shift(player, from, die);
            board.hit(player, from - die);
            dice[die]--;
            count--;
            usable--;
        }

        private boolean canMoveGreater(int die) {
            for (int greater = die + 1; greater <= GREATEST_NUMBER; greater++) {
                if (dice[greater] > 0 && board.canMoveAny(player, greater)) {
                    return true;
                }
            }
            return false;
        }

        /** Goes at most four deep: each level has one die less. */
        private int mostUsable(int remaining) {
            int most = 0;
            for (int die = GREATEST_NUMBER; die >= 1; die--) {
                for (int from = BAR; from >= 1 && dice[die] > 0 && most < remaining; from--) {
                    if (board.canMove(player, from, die)) {
                        most = Math.max(most, 1 + mostUsableAfter(from, die, remaining));
                    }
                }
            }
            return most;
        }

        /** Tries without hits: a man who is hit never stood in the way of a further move. */
        private int mostUsableAfter(int from, int die, int remaining) {
            board.shift(player, from, die);
            dice[die]--;
            int most = mostUsable(remaining - 1);
            dice[die]++;
            board.shiftBack(player, from, die);
            return most;
        }
    }

    /** The chances of races with two men a side, in parts of WHOLE. */
    private static final class Race {
        static final int LAST_RACE_POINT = 4;
        /** 36^6: no chance hangs on more than six rolls, so every one is a whole number of these. */
        private static final long WHOLE = 2176782336L;
        private static final int ROLLS = 36;
        private static final int PAIRS = 15;

        /** By both sides' pairs: 0 while unknown, else the chance and one more. */
        private final long[] known = new long[PAIRS * PAIRS];

        /** Each roll takes at least three of at most sixteen pips, or all: this goes few rolls deep. */
        private long chanceToRoll(int a, int b, int c, int d) {
            if (c == OFF && d == OFF) {
                return 0;
            }
            if (a == OFF && b == OFF) {
                return WHOLE;
            }
            int at = pairNumber(a, b) * PAIRS + pairNumber(c, d);
            if (known[at] == 0) {
                known[at] = 1 + meanOfRolls(a, b, c, d);
            }
            return known[at] - 1;
        }

        private static int pairNumber(int a, int b) {
            int rear = Math.max(a, b);
            return rear * (rear + 1) / 2 + Math.min(a, b);
        }

        private long meanOfRolls(int a, int b, int c, int d) {
            long sum = 0;
            for (int great = 1; great <= GREATEST_NUMBER; great++) {
                sum += bestWithEqual(a, b, c, d, great, 4);
                for (int small = 1; small < great; small++) {
                    long greatFirst = bestInOrder(a, b, c, d, great, small);
                    long smallFirst = bestInOrder(a, b, c, d, small, great);
                    sum += 2 * Math.max(greatFirst, smallFirst);
                }
            }
            return sum / ROLLS;
        }

        private long bestInOrder(int a, int b, int c, int d, int first, int second) {
            int rear = Math.max(a, b);
            int front = Math.min(a, b);
            long best = bestWithEqual(Math.max(OFF, rear - first), front, c, d, second, 1);
            if (frontCanMove(rear, front, first)) {
                best = Math.max(best, bestWithEqual(rear, front - first, c, d, second, 1));
            }
            return best;
        }

        /**
         * Nothing blocks a race, so dice stay unused only when all men are off; and whoever can
         * be off with fewer dice than DUE is off with DUE dice too. So all moves may be tried.
         */
        private long bestWithEqual(int a, int b, int c, int d, int die, int times) {
            int rear = Math.max(a, b);
            int front = Math.min(a, b);
            if (times <= 0 || rear == OFF) {
                return WHOLE - chanceToRoll(c, d, rear, front);
            }
            int moved = Math.max(OFF, rear - die);
            long best = bestWithEqual(moved, front, c, d, die, times - 1);
            if (frontCanMove(rear, front, die)) {
                best = Math.max(best, bestWithEqual(rear, front - die, c, d, die, times - 1));
            }
            return best;
        }

        /** A man with another one behind him goes off by his exact number alone. */
        private static boolean frontCanMove(int rear, int front, int die) {
            return front < rear && front >= die;
        }
    }
}
