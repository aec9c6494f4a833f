/** Runs of 512 calls on a new object, chosen by a fixed sequence of numbers, compared with the Model. */
public final class ModelTest {
    private static final int RUNS = 2000;
    private static final String[] READS = {"result", "used", "where", "judged", "best", "bestAnew", "place", "at",
        "placeWithout", "estimate", "plan", "where"};

    private long seed;
    private SplitGate gate;
    private Model model;
    private int levels;
    private int replays;
    private int categories;
    private int runs;
    private int offers;
    private final int[] home = new int[20];
    private int homeCount;
    private int calls;
    private StringBuilder history = new StringBuilder();

    public static void main(String[] args) {
        int submitted = 0;
        int offered = 0;
        for (int run = 0; run < RUNS && !Check.failed(); run++) {
            ModelTest test = new ModelTest();
            test.seed = 1000003L * (run + 1);
            test.play();
            submitted += test.runs;
            offered += test.offers;
        }
        // Runs that never come to the boards would compare next to nothing.
        Check.due("enough runs were submitted", submitted > 10 * RUNS, true);
        Check.due("enough offers were made", offered > 2 * RUNS, true);
        System.out.println(submitted + " runs, " + offered + " offers");
        Check.end();
    }

    private int next(int bound) {
        seed = seed * 6364136223846793005L + 1442695040888963407L;
        return (int) ((seed >>> 33) % bound);
    }

    private boolean chance(int ofHundred) {
        return next(100) < ofHundred;
    }

    /** Mostly a number from least to most, sometimes one at the edge or beyond. */
    private int about(int least, int most) {
        if (most >= least && !chance(4)) {
            return least + next(most - least + 1);
        }
        int[] others = {least - 1, most + 1, least, most, Integer.MIN_VALUE, Integer.MAX_VALUE, -1, 0};
        return others[next(others.length)];
    }

    /** Mostly the same level, so that there are many replays for the level of a category. */
    private int someLevel() {
        return chance(80) ? 0 : about(0, levels - 1);
    }

    private void play() {
        gate = new SplitGate();
        model = new Model();
        boolean rough = chance(30);
        int changes = rough ? 40 : 4 + next(20);
        while (calls < changes) {
            prepare(rough);
        }
        while (calls < Calls.MOST && !Check.failed()) {
            step();
        }
    }

    private void prepare(boolean rough) {
        if (levels < 1 || chance(5)) {
            levels += due("level") >= 0 ? 1 : 0;
            return;
        }
        int height = rough ? next(8) - 1 : next(5) == 0 ? -1 : next(3);
        due("column", next(levels), next(32), chance(50) ? 0 : height, chance(90) ? next(2) : next(3));
    }

    private void step() {
        if (homeCount < 3 && replays < 12) {
            newReplay();
            return;
        }
        if (categories == 0 || (categories < 3 && chance(10))) {
            categories += due("category", someLevel()) >= 0 ? 1 : 0;
            return;
        }
        int kind = next(100);
        if (kind < 2) {
            levels += due("level") >= 0 ? 1 : 0;
        } else if (kind < 4) {
            due("column", about(0, levels - 1), about(0, 31), about(-1, 6), about(0, 2));
        } else if (kind < 8) {
            newReplay();
        } else if (kind < 22) {
            due("input", about(0, replays - 1), buttons(), chance(50) ? about(1, 20) : about(1, 100));
        } else if (kind < 25) {
            categories += due("category", someLevel()) >= 0 ? 1 : 0;
        } else if (kind < 29) {
            due("rule", about(0, categories - 1), chance(60) ? about(0, 60) : about(0, 1000), chance(70) ? 0 : about(0, 7),
                chance(75) ? 0 : chance(90) ? next(4) : about(0, 32), chance(30) ? next(9) : about(0, 500));
        } else if (kind < 34) {
            due("pass", chance(85) ? about(1, 5) : about(1, 100));
        } else if (kind < 54) {
            int runner = chance(70) ? next(4) : about(0, 7);
            int replay = homeCount > 0 && chance(90) ? home[next(homeCount)] : about(0, replays - 1);
            runs += due("submit", runner, replay, about(0, categories - 1)) >= 0 ? 1 : 0;
        } else if (kind < 58) {
            due("strike", about(0, runs - 1));
        } else if (kind < 64) {
            offers += due("offer", about(0, categories - 1), chance(70) ? next(4) : about(0, 7)) >= 0 ? 1 : 0;
        } else if (kind < 70) {
            due("gift", about(0, offers - 1), chance(60) ? about(1, 10) : about(1, 1000));
        } else {
            read(READS[next(READS.length)]);
        }
    }

    private void newReplay() {
        if (due("replay", someLevel()) < 0) {
            return;
        }
        int replay = replays++;
        int pieces = 0;
        boolean hopping = chance(60);
        int more = hopping ? 16 + next(4) : 8 + next(8);
        while (pieces < more) {
            if (hopping) {
                due("input", replay, pieces % 2 == 0 ? 6 | 8 * next(2) : 2, pieces % 2 == 0 ? 3 + next(20) : 1 + next(3));
            } else {
                due("input", replay, buttons(), chance(60) ? 1 + next(12) : 10 + next(40));
            }
            pieces++;
        }
        if (due("result", replay) % 10 == 1) {
            home[homeCount++] = replay;
        }
    }

    private int buttons() {
        int buttons = chance(85) ? 2 : about(0, 15);
        return chance(50) ? buttons : buttons | 4 * next(2) | 8 * next(2);
    }

    private void read(String name) {
        if (name.equals("result") || name.equals("used")) {
            due(name, about(0, replays - 1));
        } else if (name.equals("where")) {
            due(name, about(0, replays - 1), chance(70) ? about(0, 60) : about(0, 500));
        } else if (name.equals("judged") || name.equals("placeWithout")) {
            due(name, about(0, runs - 1));
        } else if (name.equals("plan")) {
            due(name, chance(70) ? about(0, 2000) : about(0, 10000));
        } else {
            due(name, about(0, categories - 1), about(0, 7));
        }
    }

    /** Compares a call; returns its answer, or less than 0 if it threw, or if there are no more calls. */
    private int due(String name, int... a) {
        if (calls >= Calls.MOST) {
            return -1;
        }
        calls++;
        String told = Calls.told(name, a);
        history.append(told).append('\n');
        long got = Calls.answer(gate, name, a);
        long want = Calls.answer(model, name, a);
        if (got != want && !Check.failed()) {
            System.out.println(history);
            Check.report(told + " answered " + Calls.told(got) + ", due is " + Calls.told(want));
        }
        return want >= 0 && !Calls.isThrown(want) ? (int) want : -1;
    }
}
