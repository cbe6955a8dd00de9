/** Each promise of the document by hand-written runs. */
public final class PromiseTest extends HandWritten {
    public static void main(String[] args) {
        newObject();
        placeSets();
        rollInOpening();
        rollInRolling();
        rollWithoutMoves();
        moveOrdinary();
        moveFromBar();
        moveHits();
        moveBearsOff();
        moveMustUseMost();
        moveGreaterDie();
        moveWins();
        stepOrder();
        waysDueLeft();
        offers();
        answers();
        phasesAndTurns();
        menAndPips();
        cubePerGame();
        overKeepsBoard();
        pointsAdd();
        crawfordGame();
        crawfordOnce();
        chances();
        CHECKS.end();
    }

    // promise 1

    private static void newObject() {
        TablesMatch x = new TablesMatch(7);
        due("1 phase", x.phase(), 0);
        due("1 points 0", x.points(0), 0);
        due("1 points 1", x.points(1), 0);
        due("1 cube", x.cube(), 1);
        due("1 owner", x.owner(), NONE);
        due("1 crawford", x.crawford(), false);
        startsAnew("1 start", x);
    }

    /** The player wins a game that counts once, by his last man. */
    private static void winOne(TablesMatch x, int player) {
        due("won once " + player, Tables.winOnce(x, player), 10);
    }

    // promise 2

    private static void placeSets() {
        TablesMatch x = new TablesMatch(3);
        due("2 fewer", x.place(0, 6, 2), true);
        due("2 six", x.men(0, 6), 2);
        due("2 off", x.men(0, 0), 3);
        due("2 more", x.place(0, 20, 3), true);
        due("2 off again", x.men(0, 0), 0);
        due("2 none left", x.place(0, 21, 1), false);
        due("2 same", x.place(0, 20, 3), true);
        due("2 twenty", x.men(0, 20), 3);
        due("2 other is as before", x.pips(1), 167);
        due("2 phase", x.phase(), 0);
        x = Tables.match(3, at(6, 1), AWAY);
        due("2 fifteen", x.place(0, 6, 15), true);
        due("2 fifteen men", x.men(0, 6), 15);
        due("2 fifteen off", x.men(0, 0), 0);
        due("2 sixteen", x.place(0, 6, 16), false);
        due("2 fourteen off", x.place(0, 6, 1), true);
        due("2 fifteen off", x.place(0, 6, 0), false);
        due("2 still one", x.men(0, 6), 1);
        due("2 first point", x.place(0, 1, 1), true);
        due("2 last point is taken", x.place(1, 24, 1), false);
        due("2 last point", x.place(0, 24, 0), true);
        due("2 the other player's", x.place(1, 18, 4), true);
    }

    // promise 3

    private static void rollInOpening() {
        for (int a = 1; a <= 6; a++) {
            for (int b = 1; b <= 6; b++) {
                TablesMatch x = new TablesMatch(3);
                due("3 opening " + a + " " + b, x.roll(a, b), a == b ? 0 : 2);
                due("3 phase", x.phase(), a == b ? 0 : 2);
                due("3 turn", x.turn(), a == b ? NONE : a > b ? 0 : 1);
            }
        }
        int[] bad = {0, 7, -1, MIN, MAX};
        TablesMatch x = new TablesMatch(3);
        for (int number : bad) {
            due("3 first " + number, x.roll(number, 1), NONE);
            due("3 second " + number, x.roll(1, number), NONE);
            due("3 both " + number, x.roll(number, number), NONE);
        }
        due("3 nothing changed", x.phase(), 0);
        due("3 then", x.roll(1, 2), 2);
        due("3 moving", x.roll(1, 2), NONE);
        due("3 moving with a bad number", x.roll(0, 2), NONE);
    }

    private static void rollInRolling() {
        TablesMatch x = new TablesMatch(3);
        x.roll(2, 1);
        Tables.playOut(x);
        due("3 bad number", x.roll(7, 7), NONE);
        due("3 bad number", x.roll(1, 0), NONE);
        due("3 doubles", x.roll(3, 3), 4);
        due("3 turn", x.turn(), 1);
        due("3 four", x.left(3), 4);
        Tables.playOut(x);
        due("3 smaller first", x.roll(1, 2), 2);
        due("3 turn goes on", x.turn(), 0);
        Tables.playOut(x);
        x.offer();
        due("3 answering", x.roll(2, 1), NONE);
        TablesMatch over = new TablesMatch(1);
        winOne(over, 0);
        due("3 over", over.roll(2, 1), NONE);
    }

    private static void rollWithoutMoves() {
        // one man before six points of the other player
        TablesMatch x = Tables.match(3, at(20, 1), at(6, 2, 7, 2, 8, 2, 9, 2, 10, 2, 11, 2));
        due("3 no move", x.roll(6, 5), 0);
        due("3 at once", x.phase(), 1);
        due("3 the other one", x.turn(), 1);
        due("3 no dice", x.left(6), 0);
        due("3 no due", x.due(), 0);
        due("3 stays", x.men(0, 20), 1);
        due("3 other rolls", x.roll(1, 1), 4);
        // 14 - 1 = 13 and 8 - 1 = 7 are closed: only the 6 can be used
        TablesMatch y = Tables.match(3, at(14, 1), at(12, 2, 18, 2));
        due("3 one die", y.roll(6, 1), 1);
        due("3 moving", y.phase(), 2);
        due("3 player 0", y.turn(), 0);
    }

    // promise 4

    private static void moveOrdinary() {
        TablesMatch x = new TablesMatch(3);
        due("4 opening", x.move(6, 1), NONE);
        due("4 opening bad", x.move(99, 99), NONE);
        x.roll(6, 4);
        int[] bad = {0, -1, 26, 7, MIN, MAX};
        for (int number : bad) {
            due("4 from " + number, x.move(number, 6), WRONG);
            due("4 from " + number, x.move(number, 4), WRONG);
        }
        int[] badDice = {0, -1, 5, 1, 7, 24, MIN, MAX};
        for (int die : badDice) {
            due("4 die " + die, x.move(24, die), WRONG);
        }
        due("4 no man", x.move(23, 4), WRONG);
        due("4 the other's man", x.move(19, 4), WRONG);
        due("4 from the empty bar", x.move(25, 4), WRONG);
        due("4 not home", x.move(6, 6), WRONG);
        due("4 nothing changed", x.pips(0), 167);
        due("4 first", x.move(24, 6), 1);
        due("4 it went", x.men(0, 18), 1);
        due("4 and left", x.men(0, 24), 1);
        due("4 die is gone", x.move(24, 6), WRONG);
        due("4 second", x.move(18, 4), 0);
        due("4 there", x.men(0, 14), 1);
        due("4 rolling", x.move(14, 1), NONE);
        x.offer();
        due("4 answering", x.move(14, 1), NONE);
        TablesMatch y = new TablesMatch(3);
        y.roll(1, 5);
        due("4 closed", y.move(24, 5), WRONG);
        due("4 player 1", y.move(13, 5), 1);
        due("4 player 1 went", y.men(1, 8), 4);
        due("4 player 0 stays", y.pips(0), 167);
    }

    private static void moveFromBar() {
        // player 0 hits, so player 1 has a man on the bar
        TablesMatch x = Tables.match(3, at(10, 1, 8, 1, 6, 2, 5, 2, 4, 2), at(16, 1, 13, 3));
        due("4 roll", x.roll(2, 1), 2);
        due("4 hit", x.move(10, 1), 1);
        due("4 on the bar", x.men(1, 25), 1);
        due("4 pips with the bar", x.pips(1), 25 + 39);
        due("4 on", x.move(8, 2), 0);
        due("4 bar roll", x.roll(6, 4), 0);
        due("4 closed bar", x.turn(), 0);
        due("4 still there", x.men(1, 25), 1);
        due("4 next", x.roll(2, 1), 2);
        Tables.playOut(x);
        due("4 bar roll", x.roll(3, 1), 2);
        due("4 first the bar", x.move(13, 3), WRONG);
        due("4 first the bar", x.move(13, 1), WRONG);
        due("4 in", x.move(25, 3), 1);
        due("4 in", x.men(1, 22), 1);
        due("4 bar empty", x.move(25, 1), WRONG);
        due("4 the rest", x.move(13, 1), 0);
        due("4 there", x.men(1, 12), 1);
    }

    private static void moveHits() {
        TablesMatch x = Tables.match(5, at(7, 1, 6, 1), at(20, 2));
        due("4 roll", x.roll(2, 1), 2);
        due("4 two stand there", x.move(6, 1), WRONG);
        due("4 two stand there", x.move(7, 2), WRONG);
        due("4 none stands there", x.move(7, 1), 1);
        TablesMatch y = Tables.match(5, at(7, 2, 6, 1), at(22, 1, 20, 2, 17, 3));
        y.roll(4, 3);
        due("4 hit", y.move(7, 4), 1);
        due("4 hit man", y.men(1, 22), 0);
        due("4 bar", y.men(1, 25), 1);
        due("4 mine", y.men(0, 3), 1);
        due("4 off as before", y.men(1, 0), 9);
        due("4 only one of them", y.men(0, 25), 0);
        due("4 further", y.move(7, 3), 0);
    }

    private static void moveBearsOff() {
        TablesMatch x = Tables.match(5, at(7, 1, 6, 1, 5, 1, 3, 2), AWAY);
        due("4 roll", x.roll(6, 3), 2);
        due("4 not yet", x.move(6, 6), WRONG);
        due("4 not yet", x.move(3, 3), WRONG);
        due("4 home", x.move(7, 3), 1);
        due("4 now", x.move(6, 6), 0);
        due("4 off", x.men(0, 0), 11);
        TablesMatch y = Tables.match(5, at(5, 1, 4, 2, 2, 1), AWAY);
        due("4 roll", y.roll(6, 4), 2);
        due("4 not the rearmost", y.move(4, 6), WRONG);
        due("4 not the rearmost", y.move(2, 4), WRONG);
        due("4 exact", y.move(4, 4), 1);
        due("4 not the rearmost", y.move(4, 6), WRONG);
        due("4 rearmost", y.move(5, 6), 0);
        due("4 off", y.men(0, 0), 13);
        due("4 point", y.men(0, 5), 0);
    }

    private static void moveMustUseMost() {
        // 8-5 can be made, but then no 2: 14-2, 8-2 and 3-2 are closed; 14-5-2 uses both
        TablesMatch x = Tables.match(5, at(14, 1, 8, 1), at(13, 2, 19, 2, 24, 2));
        due("4 both", x.roll(5, 2), 2);
        due("4 one way", x.ways(), 1);
        due("4 uses one die only", x.move(8, 5), WRONG);
        due("4 nothing changed", x.pips(0), 22);
        due("4 uses both", x.move(14, 5), 1);
        due("4 then", x.move(9, 2), 0);
        // 20-4, 20-3 and 10-3 are closed; 10-4-3 is not
        TablesMatch y = Tables.match(5, at(20, 1, 10, 1), at(8, 2, 9, 2, 18, 2));
        due("4 one order", y.roll(4, 3), 2);
        due("4 three is closed", y.move(10, 3), WRONG);
        due("4 one way", y.ways(), 1);
        due("4 four first", y.move(10, 4), 1);
        due("4 three then", y.move(6, 3), 0);
        // the man on 2 could go off with the 2, but 1 and then 2 uses both
        TablesMatch z = Tables.match(5, at(2, 1), AWAY);
        due("4 both", z.roll(2, 1), 2);
        due("4 not the 2", z.move(2, 2), WRONG);
        due("4 the 1", z.move(2, 1), 1);
        due("4 and off", z.move(1, 2), 10);
    }

    private static void moveGreaterDie() {
        // 14-5 and 14-3 can be made, and nothing after either, since 14-5-3 is closed
        TablesMatch x = Tables.match(5, at(14, 1), at(19, 2));
        due("4 one", x.roll(5, 3), 1);
        due("4 ways", x.ways(), 1);
        due("4 not the smaller", x.move(14, 3), WRONG);
        due("4 the greater", x.move(14, 5), 0);
        due("4 turn ends", x.turn(), 1);
        TablesMatch y = Tables.match(5, at(14, 1), at(19, 2));
        due("4 the same from player 0", y.roll(5, 3), 1);
        due("4 step takes the greater", y.step(0), 0);
        due("4 there", y.men(0, 9), 1);
        TablesMatch z = Tables.match(5, at(14, 1), at(19, 2, 16, 2));
        due("4 greater is closed", z.roll(5, 3), 1);
        due("4 the smaller", z.move(14, 3), 0);
        due("4 there", z.men(0, 11), 1);
    }

    private static void moveWins() {
        int[][] losers = {
            {1, 2}, {6, 14}, {23, 14}, {6, 15}, {18, 15}, {6, 14, 18, 1}, {6, 14, 19, 1}, {6, 14, 23, 1}, {6, 13, 22, 2}
        };
        int[] times = {1, 1, 1, 2, 2, 2, 3, 3, 3};
        for (int i = 0; i < losers.length; i++) {
            TablesMatch x = Tables.match(25, at(1, 1), losers[i]);
            due("4 last man " + i, x.roll(6, 5), 1);
            due("4 won " + i, x.move(1, 6), 10 * times[i]);
            due("4 points " + i, x.points(0), times[i]);
            due("4 other points " + i, x.points(1), 0);
            startsAnew("4 new game " + i, x);
            due("4 opening " + i, x.phase(), 0);
            due("4 nobody " + i, x.turn(), NONE);
        }
        // the loser's man is on the bar: hit on the way home
        TablesMatch x = Tables.match(25, at(4, 1), at(6, 14, 22, 1));
        due("4 roll", x.roll(4, 1), 2);
        due("4 hit", x.move(4, 1), 1);
        due("4 bar", x.men(1, 25), 1);
        due("4 three times", x.move(3, 4), 30);
        due("4 points", x.points(0), 3);
        // with the cube at 2
        TablesMatch y = Tables.match(25, at(3, 1, 1, 1), at(6, 15));
        y.roll(1, 2);
        Tables.playOut(y);
        y.offer();
        y.answer(true);
        due("4 rolls", y.roll(6, 6), 2);
        due("4 first", y.step(0), 1);
        due("4 twice two", y.step(0), 40);
        due("4 points", y.points(0), 4);
        due("4 left", y.left(6), 0);
    }

    // promise 5

    private static void stepOrder() {
        int[][] wanted = {{24, 3}, {24, 1}, {13, 3}, {8, 3}, {8, 1}, {6, 3}, {6, 1}};
        for (int k = 0; k < wanted.length; k++) {
            TablesMatch x = new TablesMatch(3);
            x.roll(3, 1);
            int from = wanted[k][0];
            int to = from - wanted[k][1];
            int before = x.men(0, from);
            int there = x.men(0, to);
            due("5 step " + k, x.step(k), 1);
            due("5 from " + k, x.men(0, from), before - 1);
            due("5 to " + k, x.men(0, to), there + 1);
            due("5 die " + k, x.left(wanted[k][1]), 0);
        }
        TablesMatch y = Tables.match(3, at(1, 1), at(6, 15));
        y.roll(2, 1);
        due("5 wins", y.step(0), 20);
    }

    // promises 6, 7, 8

    private static void waysDueLeft() {
        TablesMatch x = new TablesMatch(3);
        due("6 opening", x.ways(), 0);
        due("7 opening", x.due(), 0);
        due("8 opening", x.left(3), 0);
        x.roll(3, 1);
        due("6 ways", x.ways(), 7);
        due("7 due", x.due(), 2);
        due("8 three", x.left(3), 1);
        due("8 one", x.left(1), 1);
        int[] none = {0, 2, 4, 5, 6, 7, -1, 25, MIN, MAX};
        for (int die : none) {
            due("8 none of " + die, x.left(die), 0);
        }
        x.step(0);
        due("7 one", x.due(), 1);
        due("8 three gone", x.left(3), 0);
        due("6 ways with 1", x.ways(), 4);
        x.step(0);
        due("6 rolling", x.ways(), 0);
        due("7 rolling", x.due(), 0);
        due("8 rolling", x.left(1), 0);
        x.roll(2, 2);
        due("8 four", x.left(2), 4);
        due("6 equal dice are one way each", x.ways(), 4);
        x.step(0);
        due("8 three left", x.left(2), 3);
        due("7 three", x.due(), 3);
        TablesMatch y = Tables.match(3, at(14, 1), at(19, 2));
        y.roll(5, 3);
        due("7 one of two", y.due(), 1);
        due("6 the greater one", y.ways(), 1);
        due("8 greater", y.left(5), 1);
        due("8 smaller, though it can't be used", y.left(3), 1);
        TablesMatch z = Tables.match(3, at(6, 1), at(13, 2));
        z.roll(1, 2);
        Tables.playOut(z);
        due("7 two of four", z.roll(3, 3), 2);
        due("8 all four", z.left(3), 4);
        TablesMatch over = new TablesMatch(1);
        winOne(over, 0);
        due("6 over", over.ways(), 0);
        due("7 over", over.due(), 0);
        due("8 over", over.left(1) + over.left(2), 0);
    }

    // promises 9, 10

    private static void offers() {
        TablesMatch x = new TablesMatch(5);
        due("9 opening", x.offer(), false);
        x.roll(2, 1);
        due("9 moving", x.offer(), false);
        Tables.playOut(x);
        due("9 rolling", x.offer(), true);
        due("9 phase", x.phase(), 3);
        due("9 the other one answers", x.turn(), 0);
        due("9 cube as before", x.cube(), 1);
        due("9 owner as before", x.owner(), NONE);
        due("9 again", x.offer(), false);
        due("10 taken", x.answer(true), 0);
        due("10 cube", x.cube(), 2);
        due("10 owner", x.owner(), 0);
        due("10 phase", x.phase(), 1);
        due("10 who offered rolls", x.turn(), 1);
        due("9 the other one owns it", x.offer(), false);
        x.roll(2, 1);
        Tables.playOut(x);
        due("9 owner may", x.offer(), true);
        x.answer(true);
        due("10 cube", x.cube(), 4);
        due("10 owner", x.owner(), 1);
        TablesMatch over = new TablesMatch(1);
        winOne(over, 0);
        due("9 over", over.offer(), false);
    }

    private static void answers() {
        TablesMatch x = new TablesMatch(5);
        due("10 opening", x.answer(true), NONE);
        x.roll(2, 1);
        due("10 moving", x.answer(false), NONE);
        Tables.playOut(x);
        due("10 rolling", x.answer(false), NONE);
        x.offer();
        due("10 dropped", x.answer(false), 10);
        due("10 points", x.points(1), 1);
        due("10 none for who drops", x.points(0), 0);
        due("10 next game", x.phase(), 0);
        due("10 opening again", x.answer(true), NONE);
        startsAnew("10 new game", x);
        x.roll(2, 1);
        Tables.playOut(x);
        x.offer();
        x.answer(true);
        x.roll(2, 1);
        Tables.playOut(x);
        x.offer();
        due("10 dropped at 2", x.answer(false), 20);
        due("10 points", x.points(0), 2);
        due("10 match goes on", x.phase(), 0);
        TablesMatch y = new TablesMatch(1);
        y.roll(2, 1);
        Tables.playOut(y);
        y.offer();
        due("10 last", y.answer(false), 10);
        due("10 over", y.phase(), 4);
        due("10 over for good", y.answer(false), NONE);
        due("12 winner", y.turn(), 1);
    }

    // promises 11, 12

    private static void phasesAndTurns() {
        TablesMatch x = new TablesMatch(2);
        due("11 opening", x.phase(), 0);
        due("12 opening", x.turn(), NONE);
        x.roll(1, 2);
        due("11 moving", x.phase(), 2);
        due("12 moving", x.turn(), 1);
        Tables.playOut(x);
        due("11 rolling", x.phase(), 1);
        due("12 rolling", x.turn(), 0);
        x.offer();
        due("11 answering", x.phase(), 3);
        due("12 answering", x.turn(), 1);
        x.answer(false);
        due("11 opening", x.phase(), 0);
        due("12 opening", x.turn(), NONE);
        winOne(x, 0);
        due("11 over", x.phase(), 4);
        due("12 over", x.turn(), 0);
        TablesMatch y = new TablesMatch(1);
        winOne(y, 1);
        due("12 over", y.turn(), 1);
    }

    // promises 13, 14

    private static void menAndPips() {
        TablesMatch x = new TablesMatch(3);
        int[] badPlayers = {-1, 2, MIN, MAX};
        for (int player : badPlayers) {
            due("13 player " + player, x.men(player, 6), NONE);
            due("14 player " + player, x.pips(player), NONE);
            due("17 player " + player, x.points(player), NONE);
        }
        int[] badPoints = {-1, 26, MIN, MAX};
        for (int point : badPoints) {
            due("13 point " + point, x.men(0, point), NONE);
            due("13 point " + point, x.men(1, point), NONE);
        }
        TablesMatch y = Tables.match(3, at(24, 2, 3, 1), at(24, 1, 10, 3));
        due("13 off", y.men(0, 0), 12);
        due("13 off", y.men(1, 0), 11);
        due("13 bar", y.men(1, 25), 0);
        due("14 pips", y.pips(0), 51);
        due("14 pips", y.pips(1), 54);
        y.roll(2, 1);
        y.move(3, 2);
        due("13 hit", y.men(1, 25), 1);
        due("14 bar counts 25", y.pips(1), 55);
        due("14 moved", y.pips(0), 49);
    }

    // promises 15, 16, 17

    private static void cubePerGame() {
        TablesMatch x = new TablesMatch(9);
        x.roll(2, 1);
        Tables.playOut(x);
        x.offer();
        x.answer(true);
        due("15 cube", x.cube(), 2);
        due("16 owner", x.owner(), 0);
        x.roll(2, 1);
        Tables.playOut(x);
        x.offer();
        x.answer(false);
        due("15 new game", x.cube(), 1);
        due("16 new game", x.owner(), NONE);
        due("17 points", x.points(0), 2);
    }

    private static void overKeepsBoard() {
        TablesMatch x = Tables.match(2, at(3, 1, 1, 1), at(6, 13, 4, 1, 5, 1));
        x.roll(1, 2);
        Tables.playOut(x);
        x.offer();
        x.answer(true);
        x.roll(6, 5);
        Tables.playOut(x);
        due("17 twice two", x.points(0), 4);
        due("11 over", x.phase(), 4);
        due("15 stays", x.cube(), 2);
        due("16 stays", x.owner(), 1);
        due("13 winner's men", x.men(0, 0), 15);
        due("13 loser's men", x.men(1, 6) + x.men(1, 5) + x.men(1, 4) + x.men(1, 3) + x.men(1, 2), 15);
        due("14 pips", x.pips(0), 0);
        due("14 pips", x.pips(1), 87 - 3);
        due("18 over", x.crawford(), false);
        TablesMatch y = new TablesMatch(1);
        y.roll(2, 1);
        y.move(24, 2);
        y.move(22, 1);
        y.offer();
        y.answer(false);
        due("13 stays after a drop", y.men(0, 21), 1);
        due("15 stays after a drop", y.cube(), 1);
        due("16 stays after a drop", y.owner(), NONE);
        due("17 after a drop", y.points(1), 1);
    }

    private static void pointsAdd() {
        TablesMatch x = new TablesMatch(7);
        winOne(x, 0);
        winOne(x, 1);
        winOne(x, 1);
        due("17 zero", x.points(0), 1);
        due("17 one", x.points(1), 2);
        Tables.set(x, at(6, 15), at(1, 1));
        x.roll(1, 2);
        due("17 gammon", x.step(0), 20);
        due("17 one", x.points(1), 4);
        Tables.set(x, at(6, 14, 20, 1), at(1, 1));
        x.roll(1, 2);
        due("17 three times", x.step(0), 30);
        due("17 one", x.points(1), 7);
        due("17 over", x.phase(), 4);
        TablesMatch y = new TablesMatch(2);
        Tables.set(y, at(1, 1), at(6, 14, 20, 1));
        y.roll(2, 1);
        due("17 above the length", y.step(0), 30);
        due("17 above the length", y.points(0), 3);
        due("17 over", y.phase(), 4);
    }

    // promise 18

    private static void crawfordGame() {
        TablesMatch x = new TablesMatch(3);
        winOne(x, 0);
        due("18 two away", x.crawford(), false);
        winOne(x, 0);
        due("18 one away", x.crawford(), true);
        x.roll(2, 1);
        due("18 moving", x.crawford(), true);
        Tables.playOut(x);
        due("9 no cube in the Crawford game", x.offer(), false);
        x.roll(2, 1);
        Tables.playOut(x);
        due("9 nor for the other one", x.offer(), false);
        due("18 rolling", x.crawford(), true);
        TablesMatch one = new TablesMatch(1);
        due("18 length 1", one.crawford(), false);
        one.roll(2, 1);
        Tables.playOut(one);
        due("18 length 1 doubles", one.offer(), true);
        TablesMatch two = new TablesMatch(2);
        due("18 length 2 at first", two.crawford(), false);
        winOne(two, 1);
        due("18 length 2", two.crawford(), true);
        winOne(two, 1);
        due("18 over", two.crawford(), false);
    }

    private static void crawfordOnce() {
        TablesMatch x = new TablesMatch(3);
        Tables.set(x, at(1, 1), at(6, 15));
        x.roll(2, 1);
        x.step(0);
        due("18 at once", x.crawford(), true);
        winOne(x, 1);
        due("18 only one game", x.crawford(), false);
        winOne(x, 1);
        due("18 not again for the other one", x.crawford(), false);
        x.roll(2, 1);
        Tables.playOut(x);
        due("9 cube again", x.offer(), true);
        TablesMatch y = new TablesMatch(4);
        winOne(y, 0);
        winOne(y, 0);
        due("18 two away", y.crawford(), false);
        y.roll(2, 1);
        Tables.playOut(y);
        y.offer();
        y.answer(true);
        y.roll(2, 1);
        Tables.playOut(y);
        y.offer();
        y.answer(false);
        due("18 jumps over it", y.points(0), 4);
        due("18 over", y.crawford(), false);
    }

    // promise 19; ChanceTest has all races

    private static void chances() {
        long whole = 36L * 36 * 36 * 36 * 36 * 36;
        TablesMatch x = new TablesMatch(3);
        due("19 neither", x.chance(0, 0, 0, 0), 0);
        due("19 other is off", x.chance(2, 1, 0, 0), 0);
        due("19 off", x.chance(0, 0, 0, 1), whole);
        due("19 certain", x.chance(1, 1, 4, 4), whole);
        due("19 certain", x.chance(1, 0, 1, 0), whole);
        // only 2 1 and 1 2 leave a man of 4 on the board
        due("19 one on four", x.chance(4, 0, 1, 0), whole / 36 * 34);
        due("19 one on three", x.chance(0, 3, 1, 1), whole);
        // even 1 1 and 2 1 take both men off
        due("19 two and one", x.chance(2, 1, 1, 1), whole);
        int[] bad = {-1, 5, MIN, MAX};
        for (int point : bad) {
            due("19 a " + point, x.chance(point, 0, 0, 0), NONE);
            due("19 b " + point, x.chance(0, point, 0, 0), NONE);
            due("19 c " + point, x.chance(0, 0, point, 0), NONE);
            due("19 d " + point, x.chance(0, 0, 0, point), NONE);
        }
        due("19 changes nothing", x.phase(), 0);
        startsAnew("19 changes nothing", x);
        x.roll(2, 1);
        due("19 in any phase", x.chance(4, 3, 2, 1), 1027924992L);
        due("19 moving on", x.due(), 2);
    }
}
