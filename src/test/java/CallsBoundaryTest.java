import java.util.Arrays;

/** The boundary cases that the promises name: one test for each sentence. */
public final class CallsBoundaryTest extends HandWritten {
    private static final int[] NO_PLAYERS = {-1, 2, 3, 25, MIN, MIN + 1, MAX, MAX - 1};
    private static final long WHOLE = 36L * 36 * 36 * 36 * 36 * 36;

    public static void main(String[] args) {
        newObject();
        place();
        roll();
        move();
        step();
        dice();
        doubling();
        questions();
        chance();
        CHECKS.end();
    }

    private static void newObject() {
        sentence("1: at least 1", CallsBoundaryTest::lengthAtLeast);
        sentence("1: and at most 25", CallsBoundaryTest::lengthAtMost);
        sentence("1: the first game is OPENING; nobody has points", CallsBoundaryTest::firstGame);
    }

    private static void place() {
        sentence("2: those that it had before are off first", CallsBoundaryTest::placeTakesOffFirst);
        sentence("2: false when the phase is not OPENING", CallsBoundaryTest::placePhase);
        sentence("2: player is not 0 or 1", CallsBoundaryTest::placePlayer);
        sentence("2: point is not 1 .. 24", CallsBoundaryTest::placePoint);
        sentence("2: n is not 0 .. 15", CallsBoundaryTest::placeCount);
        sentence("2: the other player has a man on that point", CallsBoundaryTest::placeTaken);
        sentence("2: and n is above 0", CallsBoundaryTest::placeNobodyOnTaken);
        sentence("2: fewer than 0 men off", CallsBoundaryTest::placeFewerOff);
        sentence("2: more than 14 men off", CallsBoundaryTest::placeMoreOff);
    }

    private static void roll() {
        sentence("3: NONE when the phase is not OPENING or ROLLING", CallsBoundaryTest::rollPhase);
        sentence("3: or a number is not 1 .. 6", CallsBoundaryTest::rollNumber);
        sentence("3: in the OPENING two equal numbers change nothing", CallsBoundaryTest::rollEqual);
        sentence("3: answers DUE", CallsBoundaryTest::rollAnswers);
    }

    private static void move() {
        sentence("4: NONE when the phase is not MOVING", CallsBoundaryTest::movePhase);
        sentence("4: WRONG", CallsBoundaryTest::moveWrong);
        sentence("4: of the player on turn, from one of his points", CallsBoundaryTest::moveOwnMen);
        sentence("4: answers DUE thereafter", CallsBoundaryTest::moveAnswers);
        sentence("4: 10 times the points when the game is won by it", CallsBoundaryTest::moveWins);
    }

    private static void step() {
        sentence("5: the k-th (from 0)", CallsBoundaryTest::stepFirstAndLast);
        sentence("5: the greatest FROM first, the greater die first", CallsBoundaryTest::stepOrder);
        sentence("5: NONE when the phase is not MOVING", CallsBoundaryTest::stepPhase);
        sentence("5: WRONG when there is no k-th one", CallsBoundaryTest::stepNone);
        sentence("5: the same: 10 times the points", CallsBoundaryTest::stepWins);
    }

    private static void dice() {
        sentence("6: 0 when the phase is not MOVING", CallsBoundaryTest::waysPhase);
        sentence("6: how many right moves there are", CallsBoundaryTest::waysCount);
        sentence("7: 0 when the phase is not MOVING", CallsBoundaryTest::duePhase);
        sentence("8: 0 when the phase is not MOVING", CallsBoundaryTest::leftPhase);
        sentence("8: or there is no such number", CallsBoundaryTest::leftNumber);
        sentence("8: how many dice of a number are left", CallsBoundaryTest::leftCount);
    }

    private static void doubling() {
        sentence("9: false when he may not", CallsBoundaryTest::offerRefused);
        sentence("10: NONE when the phase is not ANSWERING", CallsBoundaryTest::answerPhase);
        sentence("10: 0 when it is taken, 10 times the points when dropped", CallsBoundaryTest::answerAnswers);
    }

    private static void questions() {
        sentence("11: the number of the phase", CallsBoundaryTest::phases);
        sentence("12: in ANSWERING who answers", CallsBoundaryTest::turnAnswering);
        sentence("12: in OVER the one who won the match", CallsBoundaryTest::turnOver);
        sentence("12: NONE in the OPENING", CallsBoundaryTest::turnOpening);
        sentence("13: NONE when there is no such player", CallsBoundaryTest::menPlayer);
        sentence("13: or point", CallsBoundaryTest::menPoint);
        sentence("14: the bar counting 25", CallsBoundaryTest::pipsBar);
        sentence("14: the sum, from none to all on 24", CallsBoundaryTest::pipsEnds);
        sentence("14: NONE when there is no such player", CallsBoundaryTest::pipsPlayer);
        sentence("15: what the cube shows", CallsBoundaryTest::cubeWhileOffered);
        sentence("16: NONE when nobody does", CallsBoundaryTest::ownerNobody);
        sentence("17: NONE when there is no such player", CallsBoundaryTest::pointsPlayer);
        sentence("18: false in OVER", CallsBoundaryTest::crawfordOver);
    }

    private static void chance() {
        sentence("19: 0 when the other side has none left", CallsBoundaryTest::chanceOtherOff);
        sentence("19: also when neither has", CallsBoundaryTest::chanceNeither);
        sentence("19: otherwise 36^6 when the side to roll has none", CallsBoundaryTest::chanceOff);
        sentence("19: NONE when a number is not 0 .. 4", CallsBoundaryTest::chanceRange);
        sentence("19: 0 .. 4 each, 0 is off", CallsBoundaryTest::chanceOrder);
        sentence("19: the chance times 36^6", CallsBoundaryTest::chanceByHand);
        sentence("19: each time right ones, best for its own chance", CallsBoundaryTest::chanceBest);
        sentence("19: whatever the phase", CallsBoundaryTest::chancePhase);
    }

    // promise 1

    /** How many games that count once end a match. */
    private static int gamesOf(int length) {
        TablesMatch x = new TablesMatch(length);
        int games = 0;
        while (x.phase() == OPENING && games < 40) {
            Tables.scoreOne(x, 0);
            games++;
        }
        return games;
    }

    private static void lengthAtLeast() {
        int[] small = {1, 0, -1, -25, MIN, MIN + 1};
        for (int length : small) {
            due("length " + length, gamesOf(length), 1);
        }
        due("length 2", gamesOf(2), 2);
    }

    private static void lengthAtMost() {
        due("length 24", gamesOf(24), 24);
        int[] great = {25, 26, 50, 100, MAX, MAX - 1};
        for (int length : great) {
            due("length " + length, gamesOf(length), 25);
        }
    }

    private static void firstGame() {
        int[] lengths = {MIN, 0, 1, 7, 25, 26, MAX};
        for (int length : lengths) {
            TablesMatch x = new TablesMatch(length);
            due("phase", x.phase(), OPENING);
            due("points of 0", x.points(0), 0);
            due("points of 1", x.points(1), 0);
        }
    }

    // promise 2

    private static void placeTakesOffFirst() {
        TablesMatch x = new TablesMatch(3);
        due("nobody is off", x.men(0, 0), 0);
        due("five again", x.place(0, 6, 5), true);
        due("five", x.men(0, 6), 5);
        due("nobody is off still", x.men(0, 0), 0);
        due("none for five", x.place(0, 6, 0), true);
        due("five off", x.men(0, 0), 5);
        due("five for three", x.place(0, 8, 5), true);
        due("three off", x.men(0, 0), 3);
        due("five on 8", x.men(0, 8), 5);
        due("three to a new point", x.place(0, 7, 3), true);
        due("none off", x.men(0, 0), 0);
        due("two for three", x.place(0, 7, 2), true);
        due("one off", x.men(0, 0), 1);
        due("the other player's men", x.pips(1), 167);
    }

    private static void placePhase() {
        for (int phase = 0; phase <= 4; phase++) {
            TablesMatch x = Tables.inPhase(phase);
            int before = x.men(1, 8);
            due("phase " + phase, x.place(1, 8, before == 0 ? 0 : before - 1), phase == OPENING);
            due("men then " + phase, x.men(1, 8), phase == OPENING ? before - 1 : before);
        }
        TablesMatch second = new TablesMatch(3);
        Tables.winOnce(second, 0);
        due("second game", second.place(1, 8, 2), true);
        second.roll(5, 5);
        due("after equal numbers", second.place(1, 8, 1), true);
        second.roll(5, 4);
        due("after the roll", second.place(1, 8, 2), false);
    }

    private static void placePlayer() {
        TablesMatch x = new TablesMatch(3);
        for (int player : NO_PLAYERS) {
            due("player " + player, x.place(player, 6, 4), false);
        }
        due("player 0's men", x.men(0, 6), 5);
        due("player 1's men", x.men(1, 6), 5);
        due("player 0", x.place(0, 6, 4), true);
        due("player 1", x.place(1, 6, 4), true);
    }

    private static void placePoint() {
        TablesMatch x = Tables.match(3, at(12, 1), at(12, 1));
        int[] none = {0, -1, 25, 26, 49, -24, MIN, MIN + 1, MAX, MAX - 1};
        for (int point : none) {
            due("point " + point + ", one man", x.place(0, point, 1), false);
            due("point " + point + ", no man", x.place(1, point, 0), false);
        }
        due("bar", x.men(0, 25), 0);
        due("off", x.men(0, 0), 14);
        due("all that are off to off", x.place(0, 0, 14), false);
        due("none off: none to off", new TablesMatch(3).place(0, 0, 0), false);
        due("point 1", x.place(0, 1, 1), true);
        due("point 24", x.place(0, 24, 1), true);
        due("player 1, point 2", x.place(1, 2, 1), true);
        due("player 1, point 23", x.place(1, 23, 1), true);
    }

    private static void placeCount() {
        TablesMatch x = Tables.match(3, at(12, 1), at(12, 1));
        int[] none = {-1, -2, 16, 17, MIN, MIN + 1, MAX, MAX - 1};
        for (int n : none) {
            due("n " + n + " on 12", x.place(0, 12, n), false);
            due("n " + n + " on 3", x.place(0, 3, n), false);
        }
        due("n 0", x.place(0, 3, 0), true);
        due("n 15", x.place(0, 12, 15), true);
        due("fifteen men", x.men(0, 12), 15);
        due("nobody off", x.men(0, 0), 0);
        due("n 16 for 15", x.place(0, 12, 16), false);
        due("n 15 for 15", x.place(0, 12, 15), true);
        due("n -1 with none off", x.place(0, 3, -1), false);
    }

    private static void placeTaken() {
        for (int point = 1; point <= 24; point += 23) {
            TablesMatch x = Tables.match(3, at(12, 1), at(12, 1, 25 - point, 1));
            due("one stands on " + point, x.place(0, point, 1), false);
            due("two cannot either", x.place(0, point, 2), false);
            due("no man came", x.men(0, point), 0);
            due("he stays", x.men(1, 25 - point), 1);
            due("off", x.men(0, 0), 14);
            due("he goes", x.place(1, 25 - point, 0), true);
            due("then it is free", x.place(0, point, 1), true);
            due("and taken for him", x.place(1, 25 - point, 1), false);
        }
    }

    private static void placeNobodyOnTaken() {
        TablesMatch x = new TablesMatch(3);
        due("no man where the other's five are", x.place(0, 19, 0), true);
        due("five stay", x.men(1, 6), 5);
        due("none off", x.men(0, 0), 0);
        due("nor mine", x.men(0, 19), 0);
    }

    private static void placeFewerOff() {
        TablesMatch x = new TablesMatch(3);
        due("none is off, one more", x.place(0, 6, 6), false);
        due("on a new point", x.place(0, 5, 1), false);
        due("five as before", x.men(0, 6), 5);
        x.place(0, 8, 1);
        due("two are off, three more", x.place(0, 6, 8), false);
        due("two more", x.place(0, 6, 7), true);
        due("none is off", x.men(0, 0), 0);
        due("fifteen of ten more", x.place(0, 5, 15), false);
    }

    private static void placeMoreOff() {
        TablesMatch x = Tables.match(3, at(6, 2), at(13, 2));
        due("the last but one", x.place(0, 6, 1), true);
        due("fourteen are off", x.men(0, 0), 14);
        due("the last one", x.place(0, 6, 0), false);
        due("he stays", x.men(0, 6), 1);
        due("fourteen still", x.men(0, 0), 14);
        due("none for none", x.place(0, 5, 0), true);
        due("another one comes", x.place(0, 3, 1), true);
        due("then he may go", x.place(0, 6, 0), true);
        due("player 1 in the same way", x.place(1, 13, 0), false);
    }

    // promise 3

    private static void rollPhase() {
        int[] wanted = {2, 2, NONE, NONE, NONE};
        for (int phase = 0; phase <= 4; phase++) {
            TablesMatch x = Tables.inPhase(phase);
            due("phase " + phase, x.roll(6, 1), wanted[phase]);
            due("phase then", x.phase(), phase <= ROLLING ? MOVING : phase);
            TablesMatch equal = Tables.inPhase(phase);
            due("equal numbers, phase " + phase, equal.roll(1, 1), at(0, 4, NONE, NONE, NONE)[phase]);
        }
    }

    private static void rollNumber() {
        int[] none = {0, -1, 7, 8, 12, MIN, MIN + 1, MAX, MAX - 1};
        for (int phase = OPENING; phase <= ROLLING; phase++) {
            TablesMatch x = Tables.inPhase(phase);
            for (int number : none) {
                due("first " + number, x.roll(number, 3), NONE);
                due("second " + number, x.roll(3, number), NONE);
                due("both " + number, x.roll(number, number), NONE);
            }
            due("phase as before", x.phase(), phase);
            due("1 and 6", x.roll(1, 6), 2);
        }
    }

    private static void rollEqual() {
        TablesMatch x = new TablesMatch(3);
        int[] before = Tables.state(x);
        for (int number = 1; number <= 6; number++) {
            due("answer " + number, x.roll(number, number), 0);
            CHECKS.holds("as before " + number, Arrays.equals(before, Tables.state(x)));
        }
        TablesMatch y = Tables.inPhase(ROLLING);
        due("in ROLLING they are a roll", y.roll(2, 2), 4);
        due("and he moves", y.phase(), MOVING);
    }

    private static void rollAnswers() {
        due("none of two", Tables.match(3, at(20, 1), at(8, 2, 10, 2)).roll(5, 3), 0);
        due("one of two", Tables.match(3, at(20, 1), at(13, 2)).roll(5, 3), 1);
        due("two of two", Tables.match(3, at(20, 1), at(14, 2)).roll(5, 3), 2);
        TablesMatch x = Tables.match(3, at(20, 3), at(14, 2, 24, 2));
        Tables.pass(x);
        due("four of four", x.roll(1, 1), 4);
    }

    // promise 4

    private static void movePhase() {
        for (int phase = 0; phase <= 4; phase++) {
            if (phase != MOVING) {
                TablesMatch x = Tables.inPhase(phase);
                due("phase " + phase, x.move(13, 1), NONE);
                due("out of range, phase " + phase, x.move(0, 0), NONE);
                due("out of range, phase " + phase, x.move(MIN, MAX), NONE);
                due("as before", x.phase(), phase);
            }
        }
        due("MOVING", Tables.inPhase(MOVING).move(8, 3), 1);
    }

    private static void moveWrong() {
        TablesMatch x = Tables.inPhase(MOVING);
        int[][] wrong = {{0, 3}, {26, 3}, {13, 0}, {13, 7}, {MIN, 1}, {MAX, 1}, {24, MIN}, {24, MAX}, {MIN, MIN},
            {MAX, MAX}, {MIN, MAX}, {12, 3}, {13, 1}, {13, 2}, {25, 3}};
        for (int[] pair : wrong) {
            due("move " + pair[0] + " " + pair[1], x.move(pair[0], pair[1]), WRONG);
        }
        due("due as before", x.due(), 2);
        due("pips as before", x.pips(0), 167);
    }

    private static void moveOwnMen() {
        TablesMatch x = new TablesMatch(3);
        x.roll(2, 1);
        due("the other's man on 19", x.move(19, 1), WRONG);
        due("the other's man on 12", x.move(12, 2), WRONG);
        due("his own on 24", x.move(24, 1), 1);
        due("he went", x.men(0, 23), 1);
        due("the other's stay", x.men(1, 24), 2);
    }

    private static void moveAnswers() {
        TablesMatch x = Tables.match(3, at(24, 5), at(24, 5));
        Tables.pass(x);
        x.roll(2, 2);
        for (int after = 3; after >= 0; after--) {
            due("DUE " + after, x.move(24, 2), after);
            due("due() " + after, x.due(), after);
        }
        TablesMatch y = Tables.match(3, at(20, 1), at(13, 2));
        y.roll(5, 3);
        due("0, though a die was left", y.move(20, 5), 0);
    }

    private static void moveWins() {
        int[][] losers = {AWAY, {6, 15}, {6, 14, 19, 1}};
        for (int i = 0; i < losers.length; i++) {
            TablesMatch x = Tables.match(9, at(1, 2), losers[i]);
            x.roll(2, 1);
            due("not by the first", x.move(1, 1), 1);
            due("by the last", x.move(1, 2), 10 * (i + 1));
            due("points", x.points(0), i + 1);
        }
    }

    // promise 5

    private static void stepFirstAndLast() {
        for (int k = 0; k < 7; k++) {
            TablesMatch x = Tables.inPhase(MOVING);
            due("ways", x.ways(), 7);
            due("step " + k, x.step(k), 1);
        }
        TablesMatch last = Tables.inPhase(MOVING);
        last.step(6);
        due("the last is 6 by 1", last.men(0, 5), 1);
        TablesMatch first = Tables.inPhase(MOVING);
        first.step(0);
        due("the first is 24 by 3", first.men(0, 21), 1);
    }

    private static void stepOrder() {
        int[][] wanted = {{20, 4}, {20, 1}, {9, 4}, {9, 1}, {5, 4}, {5, 1}};
        for (int k = 0; k < wanted.length; k++) {
            TablesMatch x = Tables.match(3, at(20, 2, 9, 2, 5, 2), at(13, 2));
            x.roll(4, 1);
            due("ways", x.ways(), 6);
            x.step(k);
            due("from " + k, x.men(0, wanted[k][0]), 1);
            due("die " + k, x.left(wanted[k][1]), 0);
            due("other die " + k, x.left(5 - wanted[k][1]), 1);
        }
        TablesMatch bar = Tables.match(3, at(8, 1, 20, 2), at(18, 1, 3, 2));
        bar.roll(2, 1);
        bar.move(8, 1);
        bar.move(20, 2);
        bar.roll(4, 2);
        due("the bar by either", bar.ways(), 2);
        bar.step(1);
        due("by the smaller", bar.men(1, 23), 1);
    }

    private static void stepPhase() {
        int[] ks = {0, 1, -1, MIN, MAX};
        for (int phase = 0; phase <= 4; phase++) {
            TablesMatch x = Tables.inPhase(phase);
            for (int k : ks) {
                if (phase != MOVING) {
                    due("step " + k + " in phase " + phase, x.step(k), NONE);
                }
            }
            due("as before", x.phase(), phase);
        }
    }

    private static void stepNone() {
        TablesMatch x = Tables.inPhase(MOVING);
        int[] none = {-1, -2, 7, 8, 150, MIN, MIN + 1, MAX, MAX - 1};
        for (int k : none) {
            due("step " + k, x.step(k), WRONG);
        }
        due("as before", x.pips(0), 167);
        TablesMatch one = Tables.match(3, at(20, 1), at(13, 2));
        one.roll(5, 3);
        due("only one way", one.step(1), WRONG);
        due("the one", one.step(0), 0);
    }

    private static void stepWins() {
        due("once", Tables.win(new TablesMatch(9), 0, AWAY), 10);
        due("twice", Tables.win(new TablesMatch(9), 1, at(6, 15)), 20);
        due("three times", Tables.win(new TablesMatch(9), 0, at(6, 14, 19, 1)), 30);
    }

    // promises 6, 7, 8

    private static void waysPhase() {
        for (int phase = 0; phase <= 4; phase++) {
            due("phase " + phase, Tables.inPhase(phase).ways(), phase == MOVING ? 7 : 0);
        }
    }

    private static void waysCount() {
        TablesMatch one = Tables.match(3, at(20, 1), at(13, 2));
        one.roll(5, 3);
        due("one", one.ways(), 1);
        // fifteen men on fifteen points
        TablesMatch many = new TablesMatch(3);
        int[] row = new int[30];
        for (int i = 0; i < 15; i++) {
            row[2 * i] = 23 - i;
            row[2 * i + 1] = 1;
        }
        Tables.set(many, row, AWAY);
        many.roll(2, 1);
        due("each of fifteen by either die", many.ways(), 30);
        many.step(29);
        due("by the 2 alone", many.ways(), 14 + 1);
        TablesMatch equal = Tables.match(3, at(20, 2, 18, 1), at(24, 3));
        Tables.pass(equal);
        Tables.pass(equal);
        equal.roll(1, 1);
        due("four equal dice are one way a point", equal.ways(), pointsWithMen(equal, 0));
    }

    private static int pointsWithMen(TablesMatch x, int player) {
        int count = 0;
        for (int point = 1; point <= 24; point++) {
            count += x.men(player, point) > 0 ? 1 : 0;
        }
        return count;
    }

    private static void duePhase() {
        for (int phase = 0; phase <= 4; phase++) {
            due("phase " + phase, Tables.inPhase(phase).due(), phase == MOVING ? 2 : 0);
        }
    }

    private static void leftPhase() {
        for (int phase = 0; phase <= 4; phase++) {
            TablesMatch x = Tables.inPhase(phase);
            int sum = 0;
            for (int die = 1; die <= 6; die++) {
                sum += x.left(die);
            }
            due("phase " + phase, sum, phase == MOVING ? 2 : 0);
        }
        // the game is won with three of four dice left
        TablesMatch won = Tables.match(1, at(1, 1), at(6, 2));
        won.roll(1, 2);
        Tables.playOut(won);
        won.roll(5, 5);
        won.step(0);
        due("over", won.phase(), OVER);
        due("none in OVER", won.left(5), 0);
    }

    private static void leftNumber() {
        int[] none = {0, -1, 7, 8, 25, MIN, MIN + 1, MAX, MAX - 1};
        for (int phase = 0; phase <= 4; phase++) {
            TablesMatch x = Tables.inPhase(phase);
            for (int die : none) {
                due("left " + die + " in phase " + phase, x.left(die), 0);
            }
        }
    }

    private static void leftCount() {
        TablesMatch x = new TablesMatch(3);
        x.roll(6, 1);
        due("1", x.left(1), 1);
        due("6", x.left(6), 1);
        x.move(13, 6);
        due("1 still", x.left(1), 1);
        due("6 no more", x.left(6), 0);
        TablesMatch y = Tables.match(3, at(24, 5), at(24, 5));
        Tables.pass(y);
        y.roll(6, 6);
        for (int n = 4; n >= 1; n--) {
            due("of four", y.left(6), n);
            y.step(0);
        }
        due("none", y.left(6), 0);
    }

    // promises 9, 10

    private static void offerRefused() {
        for (int phase = 0; phase <= 4; phase++) {
            TablesMatch x = Tables.inPhase(phase);
            due("phase " + phase, x.offer(), phase == ROLLING);
            due("phase then", x.phase(), phase == ROLLING ? ANSWERING : phase);
        }
        TablesMatch owned = Tables.inPhase(ROLLING);
        Tables.doubled(owned);
        due("the other one owns the cube", owned.offer(), false);
        due("rolling still", owned.phase(), ROLLING);
        TablesMatch crawford = new TablesMatch(2);
        Tables.winOnce(crawford, 0);
        Tables.pass(crawford);
        due("the Crawford game", crawford.offer(), false);
        due("rolling still", crawford.phase(), ROLLING);
    }

    private static void answerPhase() {
        for (int phase = 0; phase <= 4; phase++) {
            if (phase != ANSWERING) {
                TablesMatch x = Tables.inPhase(phase);
                due("take in phase " + phase, x.answer(true), NONE);
                due("drop in phase " + phase, x.answer(false), NONE);
                due("as before", x.phase(), phase);
                due("cube", x.cube(), 1);
                due("points", x.points(0) + x.points(1), phase == OVER ? 1 : 0);
            }
        }
        TablesMatch x = Tables.inPhase(ANSWERING);
        x.answer(true);
        due("answered once", x.answer(true), NONE);
        due("cube", x.cube(), 2);
    }

    private static void answerAnswers() {
        due("taken", Tables.inPhase(ANSWERING).answer(true), 0);
        due("dropped", Tables.inPhase(ANSWERING).answer(false), 10);
        TablesMatch x = Tables.inPhase(ROLLING);
        Tables.doubled(x);
        Tables.pass(x);
        due("dropped at 2", Tables.dropped(x), 20);
        due("the other one gets them", x.points(0), 2);
        due("not who answers", x.points(1), 0);
    }

    // promises 11 to 18

    private static void phases() {
        TablesMatch x = new TablesMatch(1);
        due("OPENING", x.phase(), 0);
        x.roll(2, 1);
        due("MOVING", x.phase(), 2);
        Tables.playOut(x);
        due("ROLLING", x.phase(), 1);
        x.offer();
        due("ANSWERING", x.phase(), 3);
        x.answer(false);
        due("OVER", x.phase(), 4);
    }

    private static void turnAnswering() {
        TablesMatch x = Tables.inPhase(ROLLING);
        due("player 1 rolls", x.turn(), 1);
        x.offer();
        due("player 0 answers", x.turn(), 0);
        x.answer(true);
        due("player 1 rolls", x.turn(), 1);
        Tables.pass(x);
        x.offer();
        due("player 1 answers", x.turn(), 1);
    }

    private static void turnOver() {
        for (int player = 0; player < 2; player++) {
            TablesMatch moved = new TablesMatch(1);
            Tables.winOnce(moved, player);
            due("won by a move", moved.turn(), player);
            TablesMatch drop = new TablesMatch(1);
            for (int passes = player == 1 ? 1 : 2; passes > 0; passes--) {
                Tables.pass(drop);
            }
            Tables.dropped(drop);
            due("over", drop.phase(), OVER);
            due("won by a drop", drop.turn(), player);
        }
        TablesMatch x = new TablesMatch(3);
        Tables.win(x, 0, at(6, 15));
        Tables.winOnce(x, 1);
        Tables.winOnce(x, 0);
        due("who won the match", x.turn(), 0);
    }

    private static void turnOpening() {
        TablesMatch x = new TablesMatch(3);
        due("at first", x.turn(), NONE);
        x.roll(3, 3);
        due("after equal numbers", x.turn(), NONE);
        Tables.winOnce(x, 1);
        due("second game", x.turn(), NONE);
        Tables.pass(x);
        Tables.dropped(x);
        due("third game", x.turn(), NONE);
    }

    private static void menPlayer() {
        TablesMatch x = new TablesMatch(3);
        for (int player : NO_PLAYERS) {
            due("player " + player, x.men(player, 6), NONE);
            due("off, player " + player, x.men(player, 0), NONE);
        }
        due("player 0", x.men(0, 6), 5);
        due("player 1", x.men(1, 6), 5);
    }

    private static void menPoint() {
        TablesMatch x = new TablesMatch(3);
        int[] none = {-1, -2, 26, 27, 51, MIN, MIN + 1, MAX, MAX - 1};
        for (int player = 0; player < 2; player++) {
            for (int point : none) {
                due("point " + point, x.men(player, point), NONE);
            }
            due("off", x.men(player, 0), 0);
            due("bar", x.men(player, 25), 0);
            due("1", x.men(player, 1), 0);
            due("24", x.men(player, 24), 2);
        }
    }

    private static void pipsBar() {
        TablesMatch x = Tables.match(3, at(9, 1), at(18, 1, 1, 1));
        x.roll(2, 1);
        due("before", x.pips(1), 19);
        x.move(9, 2);
        due("hit", x.pips(1), 26);
        due("who hit", x.pips(0), 7);
    }

    private static void pipsEnds() {
        due("at the start", new TablesMatch(3).pips(0), 167);
        TablesMatch all = Tables.match(3, at(24, 15), at(24, 15));
        due("all on 24", all.pips(0), 360);
        due("all of player 1", all.pips(1), 360);
        TablesMatch one = Tables.match(3, at(1, 1), AWAY);
        due("one on 1, the rest off", one.pips(0), 1);
        due("all off", Tables.inPhase(OVER).pips(0), 0);
    }

    private static void pipsPlayer() {
        TablesMatch x = new TablesMatch(3);
        for (int player : NO_PLAYERS) {
            due("player " + player, x.pips(player), NONE);
        }
        due("player 1", x.pips(1), 167);
    }

    private static void cubeWhileOffered() {
        TablesMatch x = Tables.inPhase(ANSWERING);
        due("offered", x.cube(), 1);
        x.answer(true);
        due("taken", x.cube(), 2);
        Tables.pass(x);
        x.offer();
        due("offered at 2", x.cube(), 2);
        x.answer(false);
        due("dropped: a new game", x.cube(), 1);
    }

    private static void ownerNobody() {
        for (int phase = 0; phase <= 4; phase++) {
            due("phase " + phase, Tables.inPhase(phase).owner(), NONE);
        }
        TablesMatch x = Tables.inPhase(ROLLING);
        Tables.doubled(x);
        due("player 0", x.owner(), 0);
        Tables.pass(x);
        Tables.doubled(x);
        due("player 1", x.owner(), 1);
        Tables.pass(x);
        Tables.dropped(x);
        due("nobody in the next game", x.owner(), NONE);
    }

    private static void pointsPlayer() {
        TablesMatch x = new TablesMatch(9);
        Tables.winOnce(x, 0);
        Tables.win(x, 1, at(6, 15));
        for (int player : NO_PLAYERS) {
            due("player " + player, x.points(player), NONE);
        }
        due("player 0", x.points(0), 1);
        due("player 1", x.points(1), 2);
    }

    private static void crawfordOver() {
        TablesMatch x = new TablesMatch(2);
        Tables.winOnce(x, 0);
        due("the Crawford game", x.crawford(), true);
        Tables.winOnce(x, 0);
        due("over", x.phase(), OVER);
        due("in OVER", x.crawford(), false);
        due("length 1", Tables.inPhase(OVER).crawford(), false);
    }

    // promise 19

    private static void chanceOtherOff() {
        TablesMatch x = new TablesMatch(3);
        for (int a = 0; a <= 4; a++) {
            for (int b = 0; b <= 4; b++) {
                due("chance " + a + " " + b + " 0 0", x.chance(a, b, 0, 0), 0);
            }
        }
    }

    private static void chanceNeither() {
        due("chance 0 0 0 0", new TablesMatch(3).chance(0, 0, 0, 0), 0);
    }

    private static void chanceOff() {
        TablesMatch x = new TablesMatch(3);
        for (int c = 0; c <= 4; c++) {
            for (int d = 0; d <= 4; d++) {
                due("chance 0 0 " + c + " " + d, x.chance(0, 0, c, d), c + d == 0 ? 0 : WHOLE);
            }
        }
    }

    private static void chanceRange() {
        TablesMatch x = new TablesMatch(3);
        int[] none = {-1, -2, 5, 6, 25, 65536, MIN, MIN + 1, MAX, MAX - 1};
        for (int number : none) {
            for (int rest = 0; rest <= 4; rest += 4) {
                due("a " + number, x.chance(number, rest, rest, rest), NONE);
                due("b " + number, x.chance(rest, number, rest, rest), NONE);
                due("c " + number, x.chance(rest, rest, number, rest), NONE);
                due("d " + number, x.chance(rest, rest, rest, number), NONE);
            }
            due("all " + number, x.chance(number, number, number, number), NONE);
        }
        due("4 4 4 4", x.chance(4, 4, 4, 4), 1692078336L);
    }

    private static void chanceOrder() {
        TablesMatch x = new TablesMatch(3);
        due("4 3 2 1", x.chance(4, 3, 2, 1), 1027924992L);
        due("3 4 2 1", x.chance(3, 4, 2, 1), 1027924992L);
        due("4 3 1 2", x.chance(4, 3, 1, 2), 1027924992L);
        due("0 4 3 0", x.chance(0, 4, 3, 0), 2055849984L);
        due("4 0 0 3", x.chance(4, 0, 0, 3), 2055849984L);
    }

    private static void chanceByHand() {
        TablesMatch x = new TablesMatch(3);
        // a man on 3 goes off by every roll, one on 4 by all but 2 1 and 1 2
        for (int point = 1; point <= 3; point++) {
            due("one on " + point, x.chance(point, 0, 1, 1), WHOLE);
        }
        due("one on 4", x.chance(4, 0, 1, 1), WHOLE / 36 * 34);
        // a 1 takes no man from 2 off, and 1 1 but makes one roll of it
        due("two on 2", x.chance(2, 2, 1, 0), WHOLE / 36 * 26);
        // after a failure of both, the first one's man is on 1
        due("4 against 4", x.chance(4, 0, 4, 0), WHOLE / 36 * 34 + WHOLE / 36 / 36 * 2 * 2);
    }

    private static void chanceBest() {
        TablesMatch x = new TablesMatch(3);
        // against two on 1 there is but one roll: so many of 36 take both men off
        due("4 1 against two on 1", x.chance(4, 1, 1, 1), WHOLE / 36 * 29);
        due("4 3 against two on 1", x.chance(4, 3, 1, 1), WHOLE / 36 * 17);
        due("4 4 against two on 1", x.chance(4, 4, 1, 1), WHOLE / 36 * 11);
        // against one on 4 there is a second roll with 2 of 36; it is sure after 17 of the 19 rolls
        // that fail, and after 2 1 and 1 2 it takes 34 of 36 (from 2 and 2 it would take but 26)
        long second = WHOLE / 36 / 36 * 2 * 17 + WHOLE / 36 / 36 / 36 * 2 * 2 * 34;
        due("4 3 against 4", x.chance(4, 3, 4, 0), WHOLE / 36 * 17 + second);
    }

    private static void chancePhase() {
        for (int phase = 0; phase <= 4; phase++) {
            TablesMatch x = Tables.inPhase(phase);
            int[] before = Tables.state(x);
            due("phase " + phase, x.chance(4, 3, 2, 1), 1027924992L);
            due("refused in phase " + phase, x.chance(4, 3, 2, 5), NONE);
            CHECKS.holds("as before", Arrays.equals(before, Tables.state(x)));
        }
    }
}
