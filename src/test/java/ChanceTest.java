import java.math.BigInteger;
import java.util.ArrayList;
import java.util.HashMap;
import java.util.List;
import java.util.Map;
import java.util.Set;
import java.util.TreeSet;

/**
 * Promise 19: every race, against chances that are found by making all right moves on a whole
 * board and reckoned in parts of 36^40, so that nothing is rounded on the way.
 */
public final class ChanceTest {
    private static final BigInteger ROLLS = BigInteger.valueOf(36);
    private static final BigInteger WHOLE = ROLLS.pow(40);
    private static final Map<String, BigInteger> CHANCES = new HashMap<>();
    private static final Map<String, Set<String>> ENDS = new HashMap<>();

    public static void main(String[] args) {
        Checks checks = new Checks();
        TablesMatch together = new TablesMatch(3);
        for (int i = 0; i < 625; i++) {
            int a = i / 125;
            int b = i / 25 % 5;
            int c = i / 5 % 5;
            int d = i % 5;
            BigInteger[] parts = chance(side(a, b), side(c, d)).divideAndRemainder(ROLLS.pow(34));
            String call = "chance(" + a + ", " + b + ", " + c + ", " + d + ")";
            checks.due(call + " has a rest", parts[1].signum(), 0);
            checks.due(call + " on a new object", new TablesMatch(3).chance(a, b, c, d), parts[0].longValueExact());
            if (i % 3 == 0) {
                checks.due(call, together.chance(a, b, c, d), parts[0].longValueExact());
                checks.due(call + " again", together.chance(a, b, c, d), parts[0].longValueExact());
            }
        }
        checks.end();
    }

    private static String side(int a, int b) {
        return Math.max(a, b) + "" + Math.min(a, b);
    }

    private static BigInteger chance(String mine, String theirs) {
        if (theirs.equals("00")) {
            return BigInteger.ZERO;
        }
        if (mine.equals("00")) {
            return WHOLE;
        }
        BigInteger known = CHANCES.get(mine + theirs);
        if (known != null) {
            return known;
        }
        BigInteger sum = BigInteger.ZERO;
        for (int a = 1; a <= 6; a++) {
            for (int b = 1; b <= 6; b++) {
                BigInteger best = BigInteger.ZERO;
                for (String end : ends(mine, a, b)) {
                    best = best.max(WHOLE.subtract(chance(theirs, end)));
                }
                sum = sum.add(best);
            }
        }
        BigInteger[] mean = sum.divideAndRemainder(ROLLS);
        if (mean[1].signum() != 0) {
            throw new IllegalStateException("36^40 is not fine enough");
        }
        CHANCES.put(mine + theirs, mean[0]);
        return mean[0];
    }

    private static Set<String> ends(String mine, int a, int b) {
        return ENDS.computeIfAbsent(mine + a + b, key -> {
            Model.Position position = new Model.Position();
            position.add(0, mine.charAt(0) - '0', 1);
            position.add(0, mine.charAt(1) - '0', 1);
            position.add(0, 0, 13);
            position.add(1, 1, 15);
            Set<String> found = new TreeSet<>();
            follow(position, new ArrayList<>(a == b ? List.of(a, a, a, a) : List.of(a, b)), found);
            return found;
        });
    }

    private static void follow(Model.Position position, List<Integer> dice, Set<String> found) {
        List<int[]> moves = Model.right(position, 0, dice);
        for (int[] move : moves) {
            follow(position.after(0, move[0], move[1]), Model.without(dice, move[1]), found);
        }
        if (moves.isEmpty()) {
            StringBuilder end = new StringBuilder();
            for (int point = 6; point >= 1; point--) {
                for (int n = position.men(0, point); n > 0; n--) {
                    end.append(point);
                }
            }
            found.add(end.append("00").substring(0, 2));
        }
    }
}
