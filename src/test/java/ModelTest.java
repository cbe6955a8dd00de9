import java.util.Random;

/** Mixed runs of at most 512 calls, each answer compared with the plain model's. */
public final class ModelTest {
    /** What one round of a run and the questions at its end may need stays within 512 calls. */
    private static final int CALLS = 512 - 160;
    private static final int RUNS = 3000;
    private static final int[] ODD = {-1, 0, 7, 25, 26, Integer.MIN_VALUE, Integer.MAX_VALUE};

    private final Checks checks;
    private final Random random;
    private final String name;
    private final TablesMatch x;
    private final Model model;
    private int calls = 0;
    /** How often a phase was met, how often a game counted once, twice, three times, and so on. */
    private final int[] seen;

    private ModelTest(Checks checks, int run, int[] seen) {
        this.checks = checks;
        this.random = new Random(run);
        this.name = "run " + run + ", call ";
        int length = run % 50 == 0 ? random.nextInt(60) - 20 : 1 + random.nextInt(run % 2 == 0 ? 5 : 25);
        this.x = new TablesMatch(length);
        this.model = new Model(length);
        this.seen = seen;
    }

    public static void main(String[] args) {
        Checks checks = new Checks();
        int[] seen = new int[16];
        for (int run = 0; run < RUNS && !checks.failed(); run++) {
            new ModelTest(checks, run, seen).play(run % 3);
        }
        String[] what = {"opening", "rolling", "moving", "answering", "over", "once", "twice", "three times",
            "dropped", "passed", "crawford", "man on the bar", "greater die", "a die can't be used"};
        for (int i = 0; i < what.length; i++) {
            checks.holds("runs meet: " + what[i] + " (" + seen[i] + ")", seen[i] >= 100);
        }
        checks.end();
    }

    private void play(int kind) {
        while (calls < CALLS && !checks.failed()) {
            if (model.phase == 0 && kind > 0) {
                arrange(kind);
            }
            seen[model.phase]++;
            if (random.nextInt(12) == 0) {
                oddCall();
            } else {
                usualCall();
            }
            for (int i = random.nextInt(3); i > 0; i--) {
                ask();
            }
        }
        compareAll();
    }

    private void compare(String call, long got, long want) {
        calls++;
        checks.due(name + calls + ": " + call, got, want);
    }

    private void compare(String call, boolean got, boolean want) {
        compare(call, got ? 1 : 0, want ? 1 : 0);
    }

    /** Kind 1: few men, many of them near home; kind 2: men anywhere. */
    private void arrange(int kind) {
        for (int player = 0; player < 2; player++) {
            if (random.nextInt(kind == 1 ? 4 : 2) > 0) {
                int keep = random.nextInt(4);
                int[] points = {24, 13, 8, 6};
                for (int i = 0; i < 4; i++) {
                    place(player, points[i], i == keep ? 1 : 0);
                }
            }
        }
        for (int i = random.nextInt(12); i >= 0; i--) {
            int point = random.nextInt(3) > 0 && kind == 1 ? 1 + random.nextInt(6) : 1 + random.nextInt(24);
            place(random.nextInt(2), point, random.nextInt(4));
        }
        for (int player = 0; player < 2; player++) {
            if (random.nextInt(3) == 0) {
                place(player, 1 + random.nextInt(24), 2 + random.nextInt(12));
            }
            if (random.nextInt(3) == 0) {
                place(player, 1 + random.nextInt(6), model.men(player, 0));
            }
            for (int point = 1; point <= 24 && random.nextInt(3) > 0; point++) {
                if (model.men(player, point) > 0 && random.nextInt(4) > 0) {
                    place(player, point, 0);
                }
            }
        }
    }

    private void place(int player, int point, int n) {
        compare("place(" + player + ", " + point + ", " + n + ")", x.place(player, point, n),
            model.place(player, point, n));
    }

    private void usualCall() {
        switch (model.phase) {
            case 0 -> roll(1 + random.nextInt(6), 1 + random.nextInt(6));
            case 1 -> {
                if (random.nextInt(12) == 0) {
                    compare("offer()", x.offer(), model.offer());
                } else {
                    int a = 1 + random.nextInt(6);
                    roll(a, random.nextInt(4) == 0 ? a : 1 + random.nextInt(6));
                }
            }
            case 2 -> moveOrStep();
            case 3 -> answer(random.nextInt(4) > 0);
            default -> ask();
        }
    }

    private void moveOrStep() {
        seen[11] += model.position.bar[model.turn] > 0 ? 1 : 0;
        seen[12] += onlyGreater() ? 1 : 0;
        seen[13] += model.due() < model.dice.size() ? 1 : 0;
        int times = model.cube;
        int winner = model.turn;
        int before = model.points[winner];
        if (random.nextInt(4) == 0) {
            compare("ways()", x.ways(), model.ways());
            tryMoves();
        } else {
            int k = random.nextInt(Math.max(1, model.ways()) + (random.nextInt(8) == 0 ? 2 : 0));
            compare("step(" + k + ")", x.step(k), model.step(k));
        }
        int gain = (model.points[winner] - before) / times;
        if (gain > 0) {
            seen[4 + gain]++;
            seen[10] += model.crawford ? 1 : 0;
        }
    }

    private boolean onlyGreater() {
        if (model.due() != 1 || model.dice.size() < 2 || model.dice.get(0).equals(model.dice.get(1))) {
            return false;
        }
        boolean all = true;
        for (int die : model.dice) {
            boolean some = false;
            for (int from = 1; from <= 25; from++) {
                some = some || model.position.after(model.turn, from, die) != null;
            }
            all = all && some;
        }
        return all;
    }

    /** Also moves that are not right: any man by any die that is left. */
    private void tryMoves() {
        for (int i = 0; i < 4 && model.phase == 2; i++) {
            int from = 1 + random.nextInt(25);
            for (int j = 0; j < 25 && model.men(model.turn, from) == 0; j++) {
                from = 1 + from % 25;
            }
            int die = model.dice.get(random.nextInt(model.dice.size()));
            compare("move(" + from + ", " + die + ")", x.move(from, die), model.move(from, die));
        }
    }

    private void roll(int a, int b) {
        int phase = model.phase;
        int want = model.roll(a, b);
        compare("roll(" + a + ", " + b + ")", x.roll(a, b), want);
        seen[9] += want == 0 && phase == 1 ? 1 : 0;
    }

    private void answer(boolean take) {
        seen[8] += take || model.phase != 3 ? 0 : 1;
        compare("answer(" + take + ")", x.answer(take), model.answer(take));
    }

    private int odd(int usual) {
        return random.nextInt(3) == 0 ? ODD[random.nextInt(ODD.length)] : random.nextInt(usual);
    }

    private void oddCall() {
        int a = odd(26);
        int b = odd(7);
        int c = odd(16);
        switch (random.nextInt(6)) {
            case 0 -> compare("place(" + b + ", " + a + ", " + c + ")", x.place(b, a, c), model.place(b, a, c));
            case 1 -> roll(b, odd(7));
            case 2 -> compare("move(" + a + ", " + b + ")", x.move(a, b), model.move(a, b));
            case 3 -> compare("step(" + c + ")", x.step(c), model.step(c));
            case 4 -> compare("offer()", x.offer(), model.offer());
            default -> answer(random.nextInt(3) > 0);
        }
    }

    private void ask() {
        int player = random.nextInt(10) == 0 ? odd(3) : random.nextInt(2);
        int point = random.nextInt(10) == 0 ? odd(27) : random.nextInt(26);
        int die = odd(7);
        switch (random.nextInt(11)) {
            case 0 -> compare("ways()", x.ways(), model.ways());
            case 1 -> compare("due()", x.due(), model.due());
            case 2 -> compare("left(" + die + ")", x.left(die), model.left(die));
            case 3 -> compare("phase()", x.phase(), model.phase);
            case 4 -> compare("turn()", x.turn(), model.turn);
            case 5 -> compare("men(" + player + ", " + point + ")", x.men(player, point), model.men(player, point));
            case 6 -> compare("pips(" + player + ")", x.pips(player), model.pips(player));
            case 7 -> compare("cube()", x.cube(), model.cube);
            case 8 -> compare("owner()", x.owner(), model.owner);
            case 9 -> compare("points(" + player + ")", x.points(player), model.points(player));
            default -> compare("crawford()", x.crawford(), model.crawford);
        }
    }

    private void compareAll() {
        for (int player = 0; player < 2; player++) {
            for (int point = 0; point <= 25; point++) {
                compare("men(" + player + ", " + point + ")", x.men(player, point), model.men(player, point));
            }
            compare("pips(" + player + ")", x.pips(player), model.pips(player));
            compare("points(" + player + ")", x.points(player), model.points(player));
        }
        compare("phase()", x.phase(), model.phase);
        compare("turn()", x.turn(), model.turn);
        compare("cube()", x.cube(), model.cube);
        compare("owner()", x.owner(), model.owner);
        compare("crawford()", x.crawford(), model.crawford);
        compare("ways()", x.ways(), model.ways());
        compare("due()", x.due(), model.due());
        for (int die = 1; die <= 6; die++) {
            compare("left(" + die + ")", x.left(die), model.left(die));
        }
    }
}
