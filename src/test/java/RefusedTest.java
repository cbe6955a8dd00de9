import java.util.ArrayList;
import java.util.Arrays;
import java.util.List;
import java.util.function.Supplier;
import java.util.function.ToLongFunction;

/**
 * "A call that is refused changes nothing": after each refused call in each kind of state, an
 * object answers as its twin that was not asked, at once and some turns later.
 */
public final class RefusedTest extends HandWritten {
    private record Call(String name, ToLongFunction<TablesMatch> run, long due) {
    }

    public static void main(String[] args) {
        test("first game", () -> new TablesMatch(5));
        test("second game", () -> afterWins(5, 1));
        test("Crawford game", () -> afterWins(3, 2));
        test("rolling", () -> Tables.inPhase(ROLLING));
        test("rolling, the other one owns the cube", RefusedTest::ownedByOther);
        test("rolling, the cube shows 64", RefusedTest::fullCube);
        test("rolling in the Crawford game", RefusedTest::rollingInCrawford);
        test("moving", () -> Tables.inPhase(MOVING));
        test("moving, three of four dice left", RefusedTest::threeLeft);
        test("moving, a man on the bar", RefusedTest::onBar);
        test("moving, one die can be used", RefusedTest::oneCanBeUsed);
        test("moving, bearing off", RefusedTest::bearingOff);
        test("answering", () -> Tables.inPhase(ANSWERING));
        test("over", () -> Tables.inPhase(OVER));
        test("over by a drop", RefusedTest::overByDrop);
        CHECKS.end();
    }

    private static void test(String state, Supplier<TablesMatch> made) {
        sentence("a call that is refused changes nothing", () -> {
            TablesMatch twin = made.get();
            int[] now = Tables.state(twin);
            goOn(twin);
            int[] later = Tables.state(twin);
            for (Call call : refused(made)) {
                String what = state + ", " + call.name();
                TablesMatch x = made.get();
                CHECKS.due(what, call.run().applyAsLong(x), call.due());
                CHECKS.holds(what + ": as before", Arrays.equals(Tables.state(x), now));
                goOn(x);
                CHECKS.holds(what + ": later as without it", Arrays.equals(Tables.state(x), later));
            }
        });
    }

    /** What comes next, whatever the phase: doubles where they may be, and two turns. */
    private static void goOn(TablesMatch x) {
        Tables.playOut(x);
        for (int turn = 0; turn < 2; turn++) {
            x.offer();
            x.answer(true);
            x.roll(6, 5);
            Tables.playOut(x);
        }
    }

    // the calls that a state refuses

    private static List<Call> refused(Supplier<TablesMatch> made) {
        List<Call> calls = new ArrayList<>();
        int phase = made.get().phase();
        addPlaces(calls, phase);
        addRolls(calls, phase);
        addMoves(calls, made, phase);
        addDoubles(calls, made, phase);
        addQuestions(calls);
        return calls;
    }

    private static void addPlaces(List<Call> calls, int phase) {
        int[][] never = {{-1, 6, 1}, {2, 6, 1}, {MIN, 6, 1}, {MAX, 6, 1}, {0, 0, 1}, {1, 25, 1}, {0, MIN, 0},
            {1, MAX, 0}, {0, 6, -1}, {1, 6, 16}, {0, 6, MIN}, {1, 6, MAX}};
        int[][] notAtTheStart = {{0, 19, 1}, {1, 1, 1}, {0, 6, 6}, {1, 5, 1}, {0, 5, 15}};
        int[][] onlyInOpening = {{0, 6, 0}, {1, 6, 1}, {0, 24, 0}, {1, 13, 4}, {0, 3, 1}};
        addPlaces(calls, never);
        addPlaces(calls, phase == OPENING ? notAtTheStart : onlyInOpening);
    }

    private static void addPlaces(List<Call> calls, int[][] rows) {
        for (int[] row : rows) {
            calls.add(new Call("place" + Arrays.toString(row), x -> x.place(row[0], row[1], row[2]) ? 1 : 0, 0));
        }
    }

    private static void addRolls(List<Call> calls, int phase) {
        int[][] never = {{0, 1}, {1, 0}, {7, 1}, {1, 7}, {0, 0}, {7, 7}, {-1, 6}, {MIN, 6}, {6, MAX}};
        int[][] whenRolled = {{2, 1}, {1, 2}, {6, 6}};
        addRolls(calls, never);
        if (phase != OPENING && phase != ROLLING) {
            addRolls(calls, whenRolled);
        }
    }

    private static void addRolls(List<Call> calls, int[][] rows) {
        for (int[] row : rows) {
            calls.add(new Call("roll" + Arrays.toString(row), x -> x.roll(row[0], row[1]), NONE));
        }
    }

    private static void addMoves(List<Call> calls, Supplier<TablesMatch> made, int phase) {
        int due = phase == MOVING ? WRONG : NONE;
        for (int from = -1; from <= 26; from++) {
            for (int die = 0; die <= 7; die++) {
                // which moves are right is for other tests: ModelTest tries them all
                if (made.get().move(from, die) < 0) {
                    addMove(calls, from, die, due);
                }
            }
        }
        addMove(calls, MIN, MAX, due);
        addMove(calls, MAX, MIN, due);
        int[] steps = {-1, made.get().ways(), 150, MIN, MAX};
        for (int k : steps) {
            calls.add(new Call("step " + k, x -> x.step(k), due));
        }
    }

    private static void addMove(List<Call> calls, int from, int die, int due) {
        calls.add(new Call("move " + from + " " + die, x -> x.move(from, die), due));
    }

    private static void addDoubles(List<Call> calls, Supplier<TablesMatch> made, int phase) {
        // when he may is for other tests: MatchBoundaryTest
        if (!made.get().offer()) {
            calls.add(new Call("offer", x -> x.offer() ? 1 : 0, 0));
        }
        if (phase != ANSWERING) {
            calls.add(new Call("take", x -> x.answer(true), NONE));
            calls.add(new Call("drop", x -> x.answer(false), NONE));
        }
    }

    private static void addQuestions(List<Call> calls) {
        calls.add(new Call("men of nobody", x -> x.men(2, 6), NONE));
        calls.add(new Call("men nowhere", x -> x.men(0, 26), NONE));
        calls.add(new Call("pips of nobody", x -> x.pips(-1), NONE));
        calls.add(new Call("points of nobody", x -> x.points(2), NONE));
        calls.add(new Call("left 7", x -> x.left(7), 0));
        calls.add(new Call("chance 5", x -> x.chance(5, 1, 1, 1), NONE));
    }

    // the states

    private static TablesMatch afterWins(int length, int wins) {
        TablesMatch x = new TablesMatch(length);
        for (int won = 0; won < wins; won++) {
            Tables.winOnce(x, 1);
        }
        return x;
    }

    private static TablesMatch ownedByOther() {
        TablesMatch x = Tables.inPhase(ROLLING);
        Tables.doubled(x);
        return x;
    }

    private static TablesMatch fullCube() {
        TablesMatch x = new TablesMatch(25);
        Tables.pass(x);
        while (x.cube() < 64) {
            Tables.doubled(x);
            Tables.pass(x);
        }
        return x;
    }

    private static TablesMatch rollingInCrawford() {
        TablesMatch x = afterWins(3, 2);
        Tables.pass(x);
        return x;
    }

    private static TablesMatch threeLeft() {
        TablesMatch x = Tables.inPhase(ROLLING);
        x.roll(2, 2);
        x.step(1);
        return x;
    }

    private static TablesMatch onBar() {
        TablesMatch x = Tables.match(5, at(8, 1, 20, 2), at(18, 1, 13, 2));
        x.roll(2, 1);
        x.move(8, 1);
        x.move(20, 2);
        x.roll(4, 3);
        return x;
    }

    private static TablesMatch oneCanBeUsed() {
        TablesMatch x = Tables.match(5, at(20, 1), at(13, 2));
        x.roll(5, 3);
        return x;
    }

    private static TablesMatch bearingOff() {
        TablesMatch x = Tables.match(5, at(5, 1, 4, 2, 1, 3), at(23, 1, 6, 3));
        x.roll(6, 3);
        return x;
    }

    private static TablesMatch overByDrop() {
        TablesMatch x = new TablesMatch(2);
        Tables.pass(x);
        Tables.doubled(x);
        Tables.pass(x);
        Tables.dropped(x);
        return x;
    }
}
