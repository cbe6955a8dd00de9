/** The example of README.md, call by call, with the answers that it tells. */
public final class ReadmeTest extends HandWritten {
    public static void main(String[] args) {
        TablesMatch match = new TablesMatch(3);
        due("roll(3, 1)", match.roll(3, 1), 2);
        due("move(8, 3)", match.move(8, 3), 1);
        due("move(6, 1)", match.move(6, 1), 0);
        due("offer()", match.offer(), true);
        due("answer(true)", match.answer(true), 0);
        due("cube()", match.cube(), 2);
        due("roll(6, 6)", match.roll(6, 6), 4);
        due("ways()", match.ways(), 3);
        due("step(0)", match.step(0), 3);
        due("move(1, 6)", match.move(1, 6), WRONG);
        due("offer()", match.offer(), false);
        due("chance(4, 3, 2, 1)", match.chance(4, 3, 2, 1), 1027924992L);
        due("17 of 36 rolls", match.chance(4, 3, 2, 1), 17 * 36L * 36 * 36 * 36 * 36);
        CHECKS.end();
    }
}
