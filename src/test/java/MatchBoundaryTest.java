/** The boundary cases of the document's Terms, on cube, games and match: one test for each sentence. */
public final class MatchBoundaryTest extends HandWritten {
    /** All fifteen men of a loser are on the board, none of them far back. */
    private static final int[] NONE_OFF = {6, 15};

    public static void main(String[] args) {
        cube();
        games();
        match();
        crawford();
        CHECKS.end();
    }

    private static void cube() {
        sentence("THE CUBE shows 1 at first in each game, and nobody owns it", MatchBoundaryTest::atFirst);
        sentence("may offer a double when it is ROLLING", MatchBoundaryTest::onlyRolling);
        sentence("nobody else owns the cube", MatchBoundaryTest::nobodyElse);
        sentence("it shows less than 64", MatchBoundaryTest::lessThan64);
        sentence("and it is not the CRAWFORD game", MatchBoundaryTest::notCrawford);
        sentence("the cube shows twice as much and he owns it", MatchBoundaryTest::taken);
        sentence("the one who offered is to roll", MatchBoundaryTest::whoOfferedRolls);
        sentence("if he drops it, the one who offered gets what the cube shows", MatchBoundaryTest::dropped);
    }

    private static void games() {
        sentence("a player whose 15 men are off wins the game", MatchBoundaryTest::fifteenOff);
        sentence("he gets what the cube shows", MatchBoundaryTest::once);
        sentence("twice as much when the other one has no man off", MatchBoundaryTest::twice);
        sentence("three times as much when a man is in the winner's home", MatchBoundaryTest::threeTimesHome);
        sentence("three times as much when a man is on the bar", MatchBoundaryTest::threeTimesBar);
        sentence("when besides", MatchBoundaryTest::besides);
        sentence("three times what a full cube shows", MatchBoundaryTest::mostPoints);
    }

    private static void match() {
        sentence("as many POINTS as its LENGTH or more", MatchBoundaryTest::lengthOrMore);
        sentence("men, cube and its owner stay as they were then", MatchBoundaryTest::stay);
        sentence("they stay after a drop too", MatchBoundaryTest::stayAfterDrop);
        sentence("otherwise the next game is OPENING", MatchBoundaryTest::nextGame);
        sentence("an object is used for at most 512 calls", MatchBoundaryTest::lastCalls);
    }

    private static void crawford() {
        sentence("just one point less than the length", MatchBoundaryTest::oneLess);
        sentence("the one right after the game", MatchBoundaryTest::rightAfter);
        sentence("for the first time in the match that either did", MatchBoundaryTest::firstTime);
        sentence("a match of the length 1 has none", MatchBoundaryTest::lengthOne);
    }

    // the cube

    private static void atFirst() {
        TablesMatch x = new TablesMatch(25);
        due("cube", x.cube(), 1);
        due("owner", x.owner(), NONE);
        Tables.pass(x);
        Tables.doubled(x);
        Tables.pass(x);
        due("dropped at 2", Tables.dropped(x), 20);
        due("cube after a drop", x.cube(), 1);
        due("owner after a drop", x.owner(), NONE);
        Tables.set(x, at(1, 3), AWAY);
        Tables.pass(x);
        Tables.doubled(x);
        x.roll(2, 1);
        Tables.playOut(x);
        due("won in the next game", x.phase(), 0);
        due("cube after bearing off", x.cube(), 1);
        due("owner after bearing off", x.owner(), NONE);
    }

    private static void onlyRolling() {
        for (int phase = 0; phase <= 4; phase++) {
            due("offer in phase " + phase, Tables.inPhase(phase).offer(), phase == ROLLING);
        }
    }

    private static void nobodyElse() {
        TablesMatch x = new TablesMatch(25);
        Tables.pass(x);
        Tables.pass(x);
        due("nobody owns it, player 0", x.offer(), true);
        x.answer(true);
        due("the other one owns it", x.offer(), false);
        Tables.pass(x);
        due("he owns it himself", x.owner(), 1);
        due("he may", x.offer(), true);
        x.answer(true);
        due("now player 0 owns it", x.offer(), false);
        TablesMatch y = new TablesMatch(25);
        Tables.pass(y);
        due("nobody owns it, player 1", y.offer(), true);
    }

    private static TablesMatch cubeAt(int shown) {
        TablesMatch x = new TablesMatch(25);
        Tables.pass(x);
        while (x.cube() < shown) {
            Tables.doubled(x);
            Tables.pass(x);
        }
        return x;
    }

    private static void lessThan64() {
        for (int shown = 1; shown <= 32; shown *= 2) {
            due("offer at " + shown, cubeAt(shown).offer(), true);
        }
        TablesMatch x = cubeAt(64);
        due("cube", x.cube(), 64);
        due("his own cube", x.owner(), x.turn());
        due("offer at 64", x.offer(), false);
        due("rolling", x.phase(), 1);
        due("cube stays", x.cube(), 64);
    }

    private static void notCrawford() {
        TablesMatch x = new TablesMatch(3);
        Tables.winOnce(x, 0);
        Tables.pass(x);
        due("the game before it", Tables.dropped(x), 10);
        due("one each", x.points(0) + 10 * x.points(1), 11);
        Tables.winOnce(x, 0);
        Tables.pass(x);
        due("the Crawford game, player 1", x.offer(), false);
        Tables.pass(x);
        due("the Crawford game, player 0", x.offer(), false);
        TablesMatch y = new TablesMatch(3);
        Tables.win(y, 0, NONE_OFF);
        Tables.winOnce(y, 1);
        Tables.pass(y);
        due("the game after it, player 1", y.offer(), true);
        y.answer(true);
        Tables.pass(y);
        due("the game after it, player 0", y.offer(), true);
    }

    private static void taken() {
        for (int shown = 1; shown <= 32; shown *= 2) {
            TablesMatch x = cubeAt(shown);
            int other = 1 - x.turn();
            x.offer();
            due("not before it is taken", x.cube(), shown);
            x.answer(true);
            due("twice " + shown, x.cube(), 2 * shown);
            due("owner of " + 2 * shown, x.owner(), other);
        }
    }

    private static void whoOfferedRolls() {
        TablesMatch x = Tables.inPhase(ROLLING);
        due("player 1 offers", x.turn(), 1);
        Tables.doubled(x);
        due("rolling", x.phase(), 1);
        due("player 1 rolls", x.turn(), 1);
        x.roll(3, 1);
        due("player 1 moves", x.turn(), 1);
        due("his man", x.move(24, 1), 1);
        due("went", x.men(1, 23), 1);
    }

    private static void dropped() {
        for (int shown = 1; shown <= 32; shown *= 2) {
            TablesMatch x = cubeAt(shown);
            int offers = x.turn();
            due("dropped at " + shown, Tables.dropped(x), 10 * shown);
            due("who offered", x.points(offers), shown);
            due("who dropped", x.points(1 - offers), 0);
        }
    }

    // games

    private static void fifteenOff() {
        TablesMatch x = Tables.match(5, at(1, 3), AWAY);
        x.roll(2, 1);
        due("thirteen off", x.step(0), 1);
        due("fourteen off", x.step(0), 0);
        due("nobody has won", x.points(0) + x.points(1), 0);
        due("rolling", x.phase(), 1);
        due("men off", x.men(0, 0), 14);
        Tables.pass(x);
        due("the other one has won by his last man", x.points(1), 1);
        TablesMatch y = Tables.match(5, at(1, 2), at(6, 2));
        y.roll(1, 2);
        Tables.playOut(y);
        due("two of four dice", y.roll(5, 5), 2);
        due("fourteen off", y.move(1, 5), 1);
        due("fifteen off, with dice left", y.move(1, 5), 10);
        due("points", y.points(0), 1);
        due("no dice in the next game", y.left(5), 0);
        due("no due", y.due(), 0);
    }

    private static void once() {
        due("two on the board", Tables.win(new TablesMatch(9), 0, AWAY), 10);
        due("player 1", Tables.win(new TablesMatch(9), 1, AWAY), 10);
        due("with the cube at 2", wonAt2(at(6, 14)), 20);
    }

    /** Player 0 doubles, rolls, and bears his last man off; what the last move answers. */
    private static int wonAt2(int[] loser) {
        TablesMatch x = Tables.match(25, at(1, 1), loser);
        x.roll(1, 2);
        x.step(x.ways() - 1);
        x.step(x.ways() - 1);
        Tables.doubled(x);
        x.roll(2, 1);
        return x.step(0);
    }

    private static void twice() {
        due("one off", Tables.win(new TablesMatch(9), 0, at(6, 14)), 10);
        due("none off", Tables.win(new TablesMatch(9), 0, at(6, 15)), 20);
        due("none off, player 0 loses", Tables.win(new TablesMatch(9), 1, at(6, 15)), 20);
        due("with the cube at 2", wonAt2(at(13, 15)), 40);
    }

    private static void threeTimesHome() {
        for (int point = 7; point <= 23; point++) {
            int want = point >= 19 ? 30 : 20;
            due("one on " + point, Tables.win(new TablesMatch(9), 0, at(6, 14, point, 1)), want);
            due("player 0's on " + point, Tables.win(new TablesMatch(9), 1, at(6, 14, point, 1)), want);
        }
        due("all on 18", Tables.win(new TablesMatch(9), 0, at(18, 15)), 20);
        due("all on 19", Tables.win(new TablesMatch(9), 0, at(19, 15)), 30);
        due("with the cube at 2", wonAt2(at(13, 14, 23, 1)), 60);
        // his last place is the winner's 1, whence the winner's man has just gone
        TablesMatch x = Tables.match(9, at(2, 1), at(6, 14, 24, 1));
        x.roll(6, 2);
        due("on 24", x.move(2, 6), 30);
    }

    /** Player 0 hits a man on his point 3 and goes off with the same roll. */
    private static int wonByHit(int[] loser) {
        TablesMatch x = Tables.match(9, at(4, 1), loser);
        x.roll(4, 1);
        due("hit", x.move(4, 1), 1);
        due("on the bar", x.men(1, 25), 1);
        return x.move(3, 4);
    }

    private static void threeTimesBar() {
        due("none off, one on the bar", wonByHit(at(6, 14, 22, 1)), 30);
    }

    private static void besides() {
        due("one off, one on the bar", wonByHit(at(6, 13, 22, 1)), 10);
        due("all others off, one on the bar", wonByHit(at(22, 1)), 10);
        due("one off, the rest in the winner's home", Tables.win(new TablesMatch(9), 0, at(20, 14)), 10);
        due("one off, one in the winner's home", Tables.win(new TablesMatch(9), 1, at(6, 13, 23, 1)), 10);
    }

    private static void mostPoints() {
        TablesMatch x = Tables.match(25, at(1, 7), at(22, 1, 12, 14));
        due("player 1 begins", x.roll(1, 2), 2);
        for (int turn = 0; turn < 3; turn++) {
            x.move(12, 2);
            x.move(12, 1);
            Tables.doubled(x);
            x.roll(2, 1);
            Tables.playOut(x);
            Tables.doubled(x);
            x.roll(1, 2);
        }
        x.move(12, 2);
        x.move(12, 1);
        due("cube", x.cube(), 64);
        due("last man", x.men(0, 0), 14);
        x.roll(2, 1);
        due("three times 64", x.step(0), 1920);
        due("points", x.points(0), 192);
        due("over", x.phase(), 4);
        due("cube stays", x.cube(), 64);
    }

    // the match

    private static void lengthOrMore() {
        for (int length = 1; length <= 25; length++) {
            TablesMatch x = new TablesMatch(length);
            int player = length % 2;
            for (int won = 1; won <= length; won++) {
                due("length " + length + ", before game " + won, x.phase(), 0);
                Tables.scoreOne(x, player);
            }
            due("length " + length + ", as many", x.phase(), 4);
            due("points", x.points(player), length);
        }
        TablesMatch more = new TablesMatch(2);
        due("three times", Tables.win(more, 1, at(6, 14, 20, 1)), 30);
        due("one more", more.phase(), 4);
        due("points are not cut", more.points(1), 3);
        TablesMatch both = new TablesMatch(3);
        Tables.win(both, 0, NONE_OFF);
        Tables.win(both, 1, NONE_OFF);
        due("two each are not three of one", both.phase(), 0);
    }

    private static void stay() {
        TablesMatch x = Tables.match(2, at(1, 3), at(6, 13, 10, 1));
        x.roll(2, 1);
        Tables.playOut(x);
        x.roll(2, 1);
        x.move(10, 2);
        x.move(8, 1);
        Tables.doubled(x);
        x.roll(4, 3);
        due("won", x.step(0), 20);
        due("over", x.phase(), 4);
        due("cube", x.cube(), 2);
        due("owner", x.owner(), 1);
        due("winner's men off", x.men(0, 0), 15);
        due("loser's men on 6", x.men(1, 6), 13);
        due("loser's man on 7", x.men(1, 7), 1);
        due("loser's man off", x.men(1, 0), 1);
        due("winner's pips", x.pips(0), 0);
        due("loser's pips", x.pips(1), 85);
        // a man on the bar stays there
        TablesMatch y = Tables.match(1, at(4, 1), at(6, 14, 22, 1));
        y.roll(4, 1);
        y.step(0);
        y.step(0);
        due("over", y.phase(), 4);
        due("bar", y.men(1, 25), 1);
        due("nobody owns the cube", y.owner(), NONE);
        due("cube", y.cube(), 1);
    }

    private static void stayAfterDrop() {
        TablesMatch x = new TablesMatch(2);
        Tables.pass(x);
        Tables.doubled(x);
        Tables.pass(x);
        due("pips", x.pips(0), 164);
        due("dropped", Tables.dropped(x), 20);
        due("over", x.phase(), 4);
        due("cube", x.cube(), 2);
        due("owner", x.owner(), 0);
        due("pips of player 0", x.pips(0), 164);
        due("pips of player 1", x.pips(1), 164);
        due("men on 22", x.men(0, 22), 1);
        due("winner", x.turn(), 0);
    }

    private static void nextGame() {
        TablesMatch x = new TablesMatch(3);
        Tables.win(x, 1, NONE_OFF);
        due("one point is missing", x.phase(), 0);
        due("nobody is on turn", x.turn(), NONE);
        due("equal numbers begin nothing", x.roll(4, 4), 0);
        due("opening still", x.phase(), 0);
        due("player 0 may begin", x.roll(4, 2), 2);
        due("though player 1 won", x.turn(), 0);
        due("points stay", x.points(1), 2);
    }

    private static void lastCalls() {
        TablesMatch x = new TablesMatch(25);
        x.roll(2, 1);
        for (int call = 2; call < 512; call++) {
            due("call " + call, x.move(13, 3), WRONG);
        }
        due("call 512", x.move(13, 2), 1);
    }

    // the Crawford game

    private static void oneLess() {
        for (int length = 2; length <= 25; length++) {
            TablesMatch x = new TablesMatch(length);
            for (int won = 0; won < length; won++) {
                due("length " + length + ", " + won + " points", x.crawford(), won == length - 1);
                Tables.scoreOne(x, 1);
            }
            due("over", x.crawford(), false);
        }
        // a point too many: two away, then over
        TablesMatch jump = new TablesMatch(3);
        Tables.winOnce(jump, 0);
        Tables.win(jump, 0, NONE_OFF);
        due("over at once", jump.phase(), 4);
        due("no Crawford game", jump.crawford(), false);
    }

    private static void rightAfter() {
        TablesMatch x = new TablesMatch(3);
        Tables.win(x, 0, NONE_OFF);
        due("opening", x.crawford(), true);
        x.roll(4, 4);
        due("opening still", x.crawford(), true);
        x.roll(2, 1);
        due("moving", x.crawford(), true);
        Tables.playOut(x);
        due("rolling", x.crawford(), true);
        x.roll(2, 1);
        Tables.playOut(x);
        due("until its end", x.crawford(), true);
        TablesMatch y = new TablesMatch(4);
        Tables.win(y, 0, at(6, 14, 20, 1));
        due("three points at once", y.crawford(), true);
        Tables.winOnce(y, 1);
        due("only one game", y.crawford(), false);
        Tables.winOnce(y, 1);
        due("nor the next", y.crawford(), false);
    }

    private static void firstTime() {
        TablesMatch x = new TablesMatch(3);
        Tables.win(x, 0, NONE_OFF);
        Tables.win(x, 1, NONE_OFF);
        due("two each: the other one came second", x.points(1), 2);
        due("no second Crawford game", x.crawford(), false);
        TablesMatch y = new TablesMatch(4);
        Tables.win(y, 0, NONE_OFF);
        Tables.win(y, 1, NONE_OFF);
        due("two away each", y.crawford(), false);
        Tables.winOnce(y, 1);
        due("player 1 is the first", y.crawford(), true);
        Tables.winOnce(y, 0);
        due("player 0 came second", y.crawford(), false);
    }

    private static void lengthOne() {
        int[] lengths = {1, 0, -7, MIN};
        for (int length : lengths) {
            TablesMatch x = new TablesMatch(length);
            due("nobody needs more than one point", x.crawford(), false);
            Tables.pass(x);
            due("doubles are allowed", x.offer(), true);
            due("dropped", x.answer(false), 10);
            due("over", x.phase(), 4);
            due("in OVER", x.crawford(), false);
        }
    }
}
