/** The boundary cases of the document's Terms, on moves and dice: one test for each sentence. */
public final class MovesBoundaryTest extends HandWritten {
    public static void main(String[] args) {
        places();
        making();
        bearingOff();
        dice();
        phases();
        CHECKS.end();
    }

    private static void places() {
        sentence("a player's point x is the other one's point 25 - x", MovesBoundaryTest::mirrored);
        sentence("a player's HOME are his points 1 .. 6", MovesBoundaryTest::home);
        sentence("25 is his BAR, 0 is OFF", MovesBoundaryTest::barAndOff);
        sentence("each has 15 MEN", MovesBoundaryTest::fifteen);
        sentence("a game begins with 2 men on 24, 5 on 13, 3 on 8 and 5 on 6", MovesBoundaryTest::begins);
    }

    private static void making() {
        sentence("a man from FROM (a point, or 25 the bar)", MovesBoundaryTest::fromRange);
        sentence("by a DIE (1 .. 6)", MovesBoundaryTest::dieRange);
        sentence("to the point FROM - DIE when that is above 0", MovesBoundaryTest::aboveZero);
        sentence("when he has a man there", MovesBoundaryTest::manThere);
        sentence("FROM is 25 or he has no man on the bar", MovesBoundaryTest::barFirst);
        sentence("the other one has at most one man on the point", MovesBoundaryTest::atMostOne);
        sentence("if there is one, it is HIT and goes to the other one's bar", MovesBoundaryTest::hit);
        sentence("HIT on the first and the last point", MovesBoundaryTest::hitAtTheEnds);
    }

    private static void bearingOff() {
        sentence("when FROM - DIE is 0 or below, the man is borne OFF", MovesBoundaryTest::off);
        sentence("all his men are in his home or off", MovesBoundaryTest::allHome);
        sentence("FROM - DIE is 0", MovesBoundaryTest::exactNumber);
        sentence("or no man of his is on a point above FROM", MovesBoundaryTest::noneAbove);
        sentence("borne OFF: nobody is hit", MovesBoundaryTest::offHitsNobody);
    }

    private static void dice() {
        sentence("a die of each, ... four dice of that number", MovesBoundaryTest::rolled);
        sentence("DUE is the greatest number of dice", MovesBoundaryTest::greatestNumber);
        sentence("DUE of four equal dice", MovesBoundaryTest::dueOfFour);
        sentence("one after the other, in any order", MovesBoundaryTest::anyOrder);
        sentence("its die is one of those left", MovesBoundaryTest::dieLeft);
        sentence("after it DUE is one less than before", MovesBoundaryTest::oneLess);
        sentence("only those with the greater one are right", MovesBoundaryTest::greaterOne);
        sentence("when DUE is 1", MovesBoundaryTest::greaterOnlyWhenDueIsOne);
        sentence("two different dice are left", MovesBoundaryTest::greaterOnlyOfTwo);
        sentence("and moves with either can be made", MovesBoundaryTest::greaterOnlyOfEither);
    }

    private static void phases() {
        sentence("player 0 if the first number is the greater one, otherwise player 1",
            MovesBoundaryTest::whoBegins);
        sentence("he moves with that roll", MovesBoundaryTest::movesWithThatRoll);
        sentence("until DUE is 0; then the dice left are gone", MovesBoundaryTest::diceGone);
        sentence("if DUE is 0 right after a roll, that happens at once", MovesBoundaryTest::atOnce);
        sentence("DUE is 0 right after the roll of the OPENING", MovesBoundaryTest::atOnceInOpening);
    }

    // places

    private static void mirrored() {
        for (int point = 1; point <= 24; point++) {
            int spare = point == 12 ? 11 : 12;
            TablesMatch x = Tables.match(3, at(25 - spare, 1), at(point, 1));
            for (int own = 1; own <= 24; own++) {
                due("other on his " + point + ", place " + own, x.place(0, own, 1), own != 25 - point);
                x.place(0, own, own == 25 - spare ? 1 : 0);
            }
        }
    }

    private static void home() {
        for (int rear = 1; rear <= 23; rear++) {
            TablesMatch x = Tables.match(3, rear == 1 ? at(1, 3) : at(rear, 1, 1, 2), AWAY);
            due("roll with a man on " + rear, x.roll(2, 1), 2);
            due("off with a man on " + rear, x.move(1, 1), rear <= 6 ? 1 : WRONG);
            TablesMatch y = Tables.match(3, AWAY, rear == 1 ? at(1, 3) : at(rear, 1, 1, 2));
            y.roll(1, 2);
            due("player 1 with a man on " + rear, y.move(1, 1), rear <= 6 ? 1 : WRONG);
        }
    }

    private static void barAndOff() {
        TablesMatch x = Tables.match(3, at(9, 1, 8, 2), at(24, 1, 18, 1));
        due("off", x.men(1, 0), 13);
        due("bar is empty", x.men(1, 25), 0);
        x.roll(2, 1);
        x.move(9, 2);
        due("on the bar", x.men(1, 25), 1);
        due("off as before", x.men(1, 0), 13);
        due("own bar", x.men(0, 25), 0);
        x.move(8, 1);
        due("enters", x.roll(1, 5), 2);
        due("from the bar by 5", x.move(25, 5), 1);
        due("on 20", x.men(1, 20), 1);
        due("the bar is empty again", x.men(1, 25), 0);
    }

    private static void fifteen() {
        TablesMatch x = new TablesMatch(25);
        x.place(1, 13, 0);
        for (int turn = 0; turn < 8; turn++) {
            x.roll(1 + turn % 6, 1 + (turn * 5 + 1) % 6);
            Tables.playOut(x);
            for (int player = 0; player < 2; player++) {
                int sum = 0;
                for (int point = 0; point <= 25; point++) {
                    sum += x.men(player, point);
                }
                due("men of " + player + " after turn " + turn, sum, 15);
            }
        }
    }

    private static void begins() {
        TablesMatch x = new TablesMatch(25);
        startsAnew("first game", x);
        Tables.winOnce(x, 1);
        startsAnew("after a game won by moves", x);
        x.place(0, 24, 0);
        x.place(1, 13, 1);
        Tables.pass(x);
        Tables.dropped(x);
        startsAnew("after a game won by a drop", x);
    }

    // what a move is

    private static void fromRange() {
        // men off and none on the bar: neither 0 nor 25 is a place to move from
        TablesMatch x = Tables.match(3, at(24, 1, 2, 3), at(6, 2));
        x.roll(2, 1);
        int[] none = {0, -1, -2, 25, 26, 27, 49, -24, MIN, MIN + 1, MAX, MAX - 1};
        for (int from : none) {
            due("from " + from + " by 2", x.move(from, 2), WRONG);
            due("from " + from + " by 1", x.move(from, 1), WRONG);
        }
        due("from 24", x.move(24, 2), 1);
        due("from 2", x.move(2, 1), 0);
        due("from 1", ofLowestPoint(), 1);
    }

    private static int ofLowestPoint() {
        TablesMatch x = Tables.match(3, at(1, 2), AWAY);
        x.roll(2, 1);
        return x.move(1, 1);
    }

    private static void dieRange() {
        int[] none = {0, -1, -6, 7, 8, 13, 24, 25, MIN, MIN + 1, MAX, MAX - 1};
        TablesMatch x = new TablesMatch(3);
        x.roll(6, 1);
        for (int die : none) {
            due("13 by " + die, x.move(13, die), WRONG);
            due("8 by " + die, x.move(8, die), WRONG);
        }
        due("by 6", x.move(13, 6), 1);
        due("by 1", x.move(8, 1), 0);
    }

    private static void aboveZero() {
        for (int from = 2; from <= 7; from++) {
            TablesMatch x = Tables.match(3, at(from, 2), AWAY);
            int other = from == 2 ? 2 : 1;
            x.roll(Math.max(from - 1, other), Math.min(from - 1, other));
            due(from + " to 1", x.move(from, from - 1), 1);
            due("on 1", x.men(0, 1), 1);
            due("not off", x.men(0, 0), 13);
        }
        TablesMatch y = Tables.match(3, at(24, 2), at(6, 2));
        y.roll(6, 1);
        due("24 by 6", y.move(24, 6), 1);
        due("on 18", y.men(0, 18), 1);
        due("24 by 1", y.move(24, 1), 0);
        due("on 23", y.men(0, 23), 1);
    }

    private static void manThere() {
        TablesMatch x = Tables.match(3, at(10, 1, 5, 15 - 1), at(6, 2));
        x.roll(2, 1);
        for (int from = 1; from <= 25; from++) {
            if (from != 10 && from != 5) {
                due("none on " + from, x.move(from, 1), WRONG);
            }
        }
        due("the only one on 10", x.move(10, 2), 1);
        due("none on 10 any more", x.move(10, 1), WRONG);
        due("he is on 8", x.move(8, 1), 0);
    }

    private static void barFirst() {
        // player 0 hits two men
        TablesMatch x = Tables.match(3, at(11, 1, 10, 1), at(16, 1, 18, 1, 13, 3));
        x.roll(3, 2);
        x.move(10, 3);
        x.move(11, 2);
        due("two on the bar", x.men(1, 25), 2);
        due("roll", x.roll(1, 1), 4);
        due("two wait", x.move(13, 1), WRONG);
        due("first enters", x.move(25, 1), 3);
        due("one waits", x.move(13, 1), WRONG);
        due("nor he who is in", x.move(24, 1), WRONG);
        due("second enters", x.move(25, 1), 2);
        due("none waits", x.move(13, 1), 1);
        due("bar is empty", x.move(25, 1), WRONG);
        due("last", x.move(24, 1), 0);
    }

    private static void atMostOne() {
        int[] there = {0, 1, 2, 3, 14};
        for (int n : there) {
            TablesMatch x = Tables.match(3, at(10, 1, 20, 1), n == 0 ? at(1, 1) : at(1, 1, 17, n));
            x.roll(2, 1);
            due(n + " stand there", x.move(10, 2), n <= 1 ? 1 : WRONG);
            due("men on 8", x.men(0, 8), n <= 1 ? 1 : 0);
            due("the other's there", x.men(1, 17), n <= 1 ? 0 : n);
        }
        TablesMatch own = Tables.match(3, at(10, 1, 8, 14), AWAY);
        own.roll(2, 1);
        due("own men never block", own.move(10, 2), 1);
        due("all fifteen", own.men(0, 8), 15);
    }

    private static void hit() {
        TablesMatch x = Tables.match(3, at(10, 1, 9, 1), at(17, 1, 13, 1));
        x.roll(2, 1);
        due("hits", x.move(10, 2), 1);
        due("no man of his is there", x.men(1, 17), 0);
        due("he is on the bar", x.men(1, 25), 1);
        due("mine is there", x.men(0, 8), 1);
        due("my bar", x.men(0, 25), 0);
        due("a second man to 8", x.move(9, 1), 0);
        due("nobody is hit twice", x.men(1, 25), 1);
        due("two on 8", x.men(0, 8), 2);
        due("his other man stays", x.men(1, 13), 1);
    }

    private static void hitAtTheEnds() {
        TablesMatch x = Tables.match(3, at(3, 1, 13, 1), at(24, 1, 1, 1));
        x.roll(2, 1);
        due("hits on 1", x.move(3, 2), 1);
        due("the other's 24", x.men(1, 24), 0);
        due("bar", x.men(1, 25), 1);
        x.move(13, 1);
        x.roll(1, 2);
        due("enters on his 24 and hits", x.move(25, 1), 1);
        due("mine is on the bar", x.men(0, 25), 1);
        due("none on my 1", x.men(0, 1), 0);
        due("on", x.move(24, 2), 0);
        due("must enter", x.roll(1, 3), 2);
        due("on my 24, and hits on the other's 1", x.move(25, 1), 1);
        due("the other's 1", x.men(1, 1), 0);
        due("the other's bar", x.men(1, 25), 1);
        due("my 24", x.men(0, 24), 1);
    }

    // bearing off

    private static void off() {
        // FROM - DIE from 0 down to -5
        for (int die = 1; die <= 6; die++) {
            TablesMatch x = Tables.match(3, at(1, 3), AWAY);
            x.roll(6, die == 6 ? 5 : die);
            due("1 by " + die, x.move(1, die), 1);
            due("off by " + die, x.men(0, 0), 13);
            due("on 1", x.men(0, 1), 2);
        }
    }

    private static void allHome() {
        TablesMatch x = Tables.match(3, at(7, 1, 6, 2), AWAY);
        x.roll(6, 1);
        due("one is on 7", x.move(6, 6), WRONG);
        due("he comes home", x.move(7, 1), 1);
        due("all are home", x.move(6, 6), 0);
        // a man on the bar: player 1 was hit, all others of his are home
        TablesMatch y = Tables.match(3, at(8, 1, 20, 2), at(18, 1, 3, 2));
        y.roll(2, 1);
        y.move(8, 1);
        y.move(20, 2);
        due("on the bar", y.men(1, 25), 1);
        due("roll", y.roll(3, 3), 4);
        due("one is on the bar", y.move(3, 3), WRONG);
        due("enters", y.move(25, 3), 3);
        due("he is far from home", y.move(3, 3), WRONG);
    }

    private static void exactNumber() {
        for (int die = 1; die <= 5; die++) {
            TablesMatch x = Tables.match(3, at(6, 2, die, 2), AWAY);
            x.roll(6, die);
            due("by its own number " + die, x.move(die, die), 1);
            TablesMatch y = Tables.match(3, at(6, 2, die, 2), AWAY);
            y.roll(6, die);
            due("by more, with men on 6: " + die, y.move(die, 6), WRONG);
            due("6 by 6", y.move(6, 6), 1);
        }
    }

    private static void noneAbove() {
        TablesMatch x = Tables.match(3, at(5, 1, 4, 2, 2, 1), AWAY);
        x.roll(6, 5);
        due("4, with one on 5", x.move(4, 6), WRONG);
        due("4 by 5, with one on 5", x.move(4, 5), WRONG);
        due("5", x.move(5, 6), 1);
        due("2, with two on 4", x.move(2, 5), WRONG);
        due("4, with another one on 4", x.move(4, 5), 0);
        due("one on 4 is left", x.men(0, 4), 1);
        due("one on 2 is left", x.men(0, 2), 1);
        due("two are off", x.men(0, 0), 13);
    }

    private static void offHitsNobody() {
        // the other's man on the bar, a lonely man of his on each end
        TablesMatch x = Tables.match(3, at(3, 1, 1, 3), at(23, 1, 1, 1));
        x.roll(2, 1);
        x.move(3, 1);
        due("bar", x.men(1, 25), 1);
        due("1 by 2 is not yet right", x.move(1, 2), WRONG);
        due("2 by 2", x.move(2, 2), 0);
        due("bar as before", x.men(1, 25), 1);
        due("the other's 1", x.men(1, 1), 1);
        due("the other's off", x.men(1, 0), 13);
        due("enters or not", x.roll(1, 1), 0);
        due("roll", x.roll(6, 6), 3);
        due("1 by 6", x.move(1, 6), 2);
        due("bar as before", x.men(1, 25), 1);
        due("the other's 1", x.men(1, 1), 1);
    }

    // dice

    private static void rolled() {
        for (int a = 1; a <= 6; a++) {
            for (int b = 1; b <= 6; b++) {
                TablesMatch x = Tables.match(3, at(24, 5), at(24, 5));
                Tables.pass(x);
                x.roll(a, b);
                for (int die = 1; die <= 6; die++) {
                    int want = die != a && die != b ? 0 : a == b ? 4 : 1;
                    due("roll " + a + " " + b + ", left " + die, x.left(die), want);
                }
            }
        }
    }

    private static void greatestNumber() {
        // one man on 20; the other player closes some of 17 (by 3), 15 (by 5) and 12 (by both)
        int[][] closed = {{8, 2, 10, 2}, {13, 2}, {10, 2, 13, 2}, {8, 2, 13, 2}, {8, 2}, {10, 2}, {7, 2}};
        int[] wanted = {0, 1, 1, 1, 2, 2, 2};
        for (int i = 0; i < closed.length; i++) {
            TablesMatch x = Tables.match(3, at(20, 1), closed[i]);
            due("roll " + i, x.roll(5, 3), wanted[i]);
            due("due " + i, x.due(), wanted[i]);
            due("moving " + i, x.phase(), wanted[i] > 0 ? 2 : 1);
        }
        TablesMatch two = Tables.match(3, at(20, 1, 19, 1), at(13, 2));
        due("another man can use the second die", two.roll(5, 3), 2);
    }

    private static void dueOfFour() {
        // one man on 20, rolling 3 3, with the k-th point on his way closed
        for (int k = 0; k <= 4; k++) {
            TablesMatch x = Tables.match(3, at(20, 1), k == 4 ? at(24, 1) : at(24, 1, 8 + 3 * k, 2));
            x.roll(1, 2);
            due("player 1 moves", x.move(24, 2), 1);
            due("player 1 moves", x.move(22, 1), 0);
            due("due", x.roll(3, 3), k);
            for (int done = 1; done <= k; done++) {
                due("due after " + done, x.step(0), k - done);
            }
            due("how far he came", x.pips(0), 20 - 3 * k);
            due("player 1 is on turn", x.turn(), 1);
        }
        // two men take all four, though one alone could use but two
        TablesMatch y = Tables.match(3, at(20, 2), at(24, 1, 14, 2));
        y.roll(1, 2);
        y.move(24, 2);
        y.move(22, 1);
        due("two men", y.roll(3, 3), 4);
    }

    private static void anyOrder() {
        TablesMatch x = Tables.match(3, at(20, 1), at(8, 2));
        due("the greater first", x.roll(5, 3), 2);
        due("ways", x.ways(), 1);
        due("5", x.move(20, 5), 1);
        due("3", x.move(15, 3), 0);
        TablesMatch y = Tables.match(3, at(20, 1), at(10, 2));
        due("the smaller first", y.roll(5, 3), 2);
        due("ways", y.ways(), 1);
        due("3", y.move(20, 3), 1);
        due("5", y.move(17, 5), 0);
        TablesMatch z = Tables.match(3, at(7, 1, 5, 1), AWAY);
        due("the last man comes home first", z.roll(6, 1), 2);
        TablesMatch bar = Tables.match(3, at(8, 1, 20, 2), at(18, 1, 19, 1));
        bar.roll(2, 1);
        bar.move(8, 1);
        bar.move(20, 2);
        due("the bar by the one, on by the other", bar.roll(5, 6), 2);
    }

    private static void dieLeft() {
        TablesMatch x = new TablesMatch(3);
        x.roll(4, 2);
        due("3 is not left", x.move(13, 3), WRONG);
        due("6 is no die, but the sum of both", x.move(13, 6), WRONG);
        due("4", x.move(13, 4), 1);
        due("4 is not left any more", x.move(13, 4), WRONG);
        due("2", x.move(13, 2), 0);
        TablesMatch y = Tables.match(3, at(24, 5), at(24, 5));
        Tables.pass(y);
        y.roll(2, 2);
        for (int n = 3; n >= 0; n--) {
            due("one of four", y.move(24, 2), n);
        }
        due("no fifth", y.move(24, 2), NONE);
    }

    private static void oneLess() {
        // 8 by 5 leaves no 2; 14 by 5 and on by 2 uses both
        TablesMatch x = Tables.match(3, at(14, 1, 8, 1), at(13, 2, 19, 2, 24, 2));
        due("both can be used", x.roll(5, 2), 2);
        due("would leave 0", x.move(8, 5), WRONG);
        due("leaves 1", x.move(14, 5), 1);
        due("leaves 0", x.move(9, 2), 0);
        // the last man goes off by the 2, but 1 and 2 use both
        TablesMatch y = Tables.match(3, at(2, 1), AWAY);
        due("both can be used", y.roll(2, 1), 2);
        due("would end the game with a die less", y.move(2, 2), WRONG);
        due("leaves 1", y.move(2, 1), 1);
    }

    private static void greaterOne() {
        TablesMatch x = Tables.match(3, at(20, 1), at(13, 2));
        due("one of two", x.roll(5, 3), 1);
        due("ways", x.ways(), 1);
        due("the smaller", x.move(20, 3), WRONG);
        due("stays", x.men(0, 20), 1);
        due("the greater", x.move(20, 5), 0);
        TablesMatch y = Tables.match(3, at(13, 2), at(20, 1));
        due("player 1", y.roll(3, 5), 1);
        due("the smaller", y.move(20, 3), WRONG);
        due("the greater", y.step(0), 0);
        due("there", y.men(1, 15), 1);
        TablesMatch last = Tables.match(3, at(1, 1), AWAY);
        due("the last man", last.roll(2, 1), 1);
        due("not by the 1", last.move(1, 1), WRONG);
        due("by the 2", last.move(1, 2), 10);
    }

    private static void greaterOnlyWhenDueIsOne() {
        TablesMatch x = Tables.match(3, at(20, 1), at(6, 2));
        due("two", x.roll(5, 3), 2);
        due("ways", x.ways(), 2);
        due("the smaller first", x.move(20, 3), 1);
        due("the greater then", x.move(17, 5), 0);
    }

    private static void greaterOnlyOfTwo() {
        TablesMatch x = Tables.match(3, at(20, 2), at(6, 2));
        x.roll(5, 3);
        due("the greater first", x.move(20, 5), 1);
        due("now DUE is 1, but one die is left", x.ways(), 2);
        due("the smaller", x.move(20, 3), 0);
        // equal dice: 20 by 3 is closed, and so is 10 by 3 and 3
        TablesMatch y = Tables.match(3, at(20, 1, 10, 1), at(24, 1, 8, 2, 21, 2));
        y.roll(1, 2);
        y.move(24, 2);
        y.move(22, 1);
        due("one of four", y.roll(3, 3), 1);
        due("it is right", y.move(10, 3), 0);
    }

    private static void greaterOnlyOfEither() {
        TablesMatch x = Tables.match(3, at(20, 1), at(10, 2, 13, 2));
        due("only the smaller can be used", x.roll(5, 3), 1);
        due("ways", x.ways(), 1);
        due("the greater is closed", x.move(20, 5), WRONG);
        due("the smaller", x.move(20, 3), 0);
        TablesMatch y = Tables.match(3, at(20, 1), at(8, 2, 13, 2));
        due("only the greater can be used", y.roll(5, 3), 1);
        due("the smaller is closed", y.move(20, 3), WRONG);
        due("the greater", y.move(20, 5), 0);
    }

    // phases

    private static void whoBegins() {
        for (int a = 1; a <= 6; a++) {
            for (int b = 1; b <= 6; b++) {
                TablesMatch x = new TablesMatch(3);
                x.roll(a, b);
                due("turn after " + a + " " + b, x.turn(), a == b ? NONE : a > b ? 0 : 1);
                due("phase after " + a + " " + b, x.phase(), a == b ? 0 : 2);
            }
        }
    }

    private static void movesWithThatRoll() {
        TablesMatch x = new TablesMatch(3);
        x.roll(1, 6);
        due("player 1", x.turn(), 1);
        due("left 1", x.left(1), 1);
        due("left 6", x.left(6), 1);
        due("player 1 moves by 6", x.move(13, 6), 1);
        due("and by 1", x.move(8, 1), 0);
        due("two men on 7", x.men(1, 7), 2);
    }

    private static void diceGone() {
        TablesMatch x = Tables.match(3, at(20, 1), at(13, 2));
        x.roll(5, 3);
        due("one can be used", x.move(20, 5), 0);
        due("3 is gone", x.left(3), 0);
        due("rolling", x.phase(), 1);
        due("player 1", x.turn(), 1);
        due("he cannot move with it", x.move(13, 3), NONE);
        due("no ways", x.ways(), 0);
        due("his own roll", x.roll(6, 4), 2);
        due("3 is gone for good", x.left(3), 0);
        due("his own dice", x.left(6) + x.left(4), 2);
    }

    private static void atOnce() {
        TablesMatch x = Tables.match(3, at(20, 1, 24, 1), at(6, 2, 7, 2, 8, 2, 9, 2, 10, 2, 11, 3, 24, 1));
        x.roll(1, 2);
        x.move(24, 2);
        due("player 0 is on turn", x.move(22, 1), 0);
        due("no move with any of four", x.roll(6, 6), 0);
        due("rolling", x.phase(), 1);
        due("player 1 is on turn", x.turn(), 1);
        due("no die left", x.left(6), 0);
        due("no man moved", x.pips(0), 44);
        due("player 1 may double", x.offer(), true);
    }

    private static void atOnceInOpening() {
        TablesMatch x = Tables.match(3, at(20, 1), at(8, 2, 10, 2));
        due("no move", x.roll(5, 3), 0);
        due("rolling", x.phase(), 1);
        due("player 1 is on turn", x.turn(), 1);
        due("no die left", x.left(5) + x.left(3), 0);
        due("player 1 rolls", x.roll(2, 1), 2);
        TablesMatch y = Tables.match(3, at(8, 2, 10, 2), at(20, 1));
        due("no move of player 1", y.roll(3, 5), 0);
        due("player 0 is on turn", y.turn(), 0);
        due("rolling", y.phase(), 1);
    }
}
