/** Promises 15 to 19: best, bestAnew, place, at and placeWithout. */
public final class BoardsTest {
    public static void main(String[] args) {
        boardsTakeTheirRanges();
        emptyBoards();
        theFewestTicksAreBest();
        ofSeveralTheEarliestIsBest();
        onlyRunsThatCountAreOnTheBoard();
        placesHaveTies();
        boardsAreOfTheirCategory();
        atTellsTheBoardInOrder();
        placeWithoutARun();
        placeWithoutKeepsTheRun();
        bestAnewIsBest();
        Check.end();
    }

    private static void boardsTakeTheirRanges() {
        SplitGate x = Make.archive(1, 0, 0);
        x.submit(7, Make.walk(x, 0, 122), 1);
        int[][] wrong = {{-1, 0}, {2, 0}, {6, 0}, {Integer.MAX_VALUE, 0}, {Integer.MIN_VALUE, 0},
            {0, -1}, {0, 8}, {0, Integer.MAX_VALUE}, {0, Integer.MIN_VALUE}, {2, 8}};
        for (int[] pair : wrong) {
            String told = "(" + pair[0] + ", " + pair[1] + ")";
            Check.throwsIndex("best" + told, () -> x.best(pair[0], pair[1]));
            Check.throwsIndex("bestAnew" + told, () -> x.bestAnew(pair[0], pair[1]));
            Check.throwsIndex("place" + told, () -> x.place(pair[0], pair[1]));
            Check.throwsIndex("at" + told, () -> x.at(pair[0], pair[1]));
        }
        Check.throwsIndex("at(1, 1)", () -> x.at(1, 1));
        Check.throwsIndex("at(1, -1)", () -> x.at(1, -1));
        Check.throwsIndex("placeWithout(-1)", () -> x.placeWithout(-1));
        Check.throwsIndex("placeWithout(1)", () -> x.placeWithout(1));
        Check.throwsIndex("placeWithout(most)", () -> x.placeWithout(Integer.MAX_VALUE));
        dueBest("the last runner", x, 1, 7, 0);
        Check.due("place(1, 7)", x.place(1, 7), 1);
    }

    private static void dueBest(String what, SplitGate x, int category, int runner, int run) {
        Check.due(what + ": best(" + category + ", " + runner + ")", x.best(category, runner), run);
        Check.due(what + ": bestAnew(" + category + ", " + runner + ")", x.bestAnew(category, runner), run);
    }

    private static void dueBoard(String what, SplitGate x, int category, int... runs) {
        for (int i = 0; i < runs.length; i++) {
            Check.due(what + ": at(" + category + ", " + i + ")", x.at(category, i), runs[i]);
        }
        Check.throwsIndex(what + ": at behind the board", () -> x.at(category, runs.length));
        Check.throwsIndex(what + ": at ahead of the board", () -> x.at(category, -1));
    }

    private static void duePlaces(String what, SplitGate x, int category, int... places) {
        for (int runner = 0; runner < 8; runner++) {
            int due = runner < places.length ? places[runner] : -1;
            Check.due(what + ": place(" + category + ", " + runner + ")", x.place(category, runner), due);
        }
    }

    private static void emptyBoards() {
        SplitGate x = Make.archive(1, 0);
        for (int runner = 0; runner < 8; runner++) {
            dueBest("empty", x, 0, runner, -1);
        }
        duePlaces("empty", x, 0);
        dueBoard("empty", x, 0);
    }

    private static void theFewestTicksAreBest() {
        SplitGate x = Make.archive(1, 0);
        int slow = Make.walk(x, 0, 150);
        int fast = Make.walk(x, 0, 130);
        int middle = Make.walk(x, 0, 140);
        x.submit(3, slow, 0);
        dueBest("slow", x, 0, 3, 0);
        x.submit(3, fast, 0);
        dueBest("fast", x, 0, 3, 1);
        x.submit(3, middle, 0);
        dueBest("middle", x, 0, 3, 1);
        x.submit(4, middle, 0);
        dueBest("another runner", x, 0, 3, 1);
        dueBest("another runner", x, 0, 4, 3);
        dueBest("another runner", x, 0, 5, -1);
    }

    private static void ofSeveralTheEarliestIsBest() {
        SplitGate x = Make.archive(1, 0);
        int replay = Make.walk(x, 0, 130);
        int same = Make.walk(x, 0, 130);
        x.submit(0, replay, 0);
        x.submit(0, same, 0);
        dueBest("the same day", x, 0, 0, 0);
        x.pass(1);
        x.submit(0, replay, 0);
        dueBest("a later day", x, 0, 0, 0);
        x.strike(0);
        dueBest("the first struck", x, 0, 0, 1);
        x.strike(1);
        dueBest("two struck", x, 0, 0, 2);
        x.strike(0);
        dueBest("the first restored", x, 0, 0, 0);
    }

    private static void onlyRunsThatCountAreOnTheBoard() {
        SplitGate x = Make.archive(1, 0);
        int dashing = Make.replay(x, 0, Make.RIGHT + Make.DASH, 1, Make.RIGHT, 100, Make.RIGHT, 22);
        int walking = Make.walk(x, 0, 122);
        x.submit(0, dashing, 0);
        x.submit(0, walking, 0);
        x.submit(1, dashing, 0);
        dueBest("no rule", x, 0, 0, 0);
        dueBoard("no rule", x, 0, 0, 2);
        x.rule(0, 0, 2, 0, 500);
        dueBest("no dash", x, 0, 0, 1);
        dueBest("no dash", x, 0, 1, -1);
        dueBoard("no dash", x, 0, 1);
        duePlaces("no dash", x, 0, 1);
        x.strike(1);
        dueBest("no dash, struck", x, 0, 0, -1);
        dueBoard("no dash, struck", x, 0);
        duePlaces("no dash, struck", x, 0);
        x.rule(0, 0, 0, 0, 500);
        dueBest("dash, struck", x, 0, 0, 0);
        dueBest("dash, struck", x, 0, 1, 2);
        duePlaces("dash, struck", x, 0, 1, 1);
    }

    /** Runners 0 to 4 with 140, 130, 140, 122 and 130 ticks, by the runs 0 to 4; the run 5 is a slower one. */
    private static SplitGate fiveRunners() {
        SplitGate x = Make.archive(1, 0, 0);
        int a = Make.walk(x, 0, 122);
        int b = Make.walk(x, 0, 130);
        int c = Make.walk(x, 0, 140);
        int[] replays = {c, b, c, a, b};
        for (int runner = 0; runner < replays.length; runner++) {
            x.submit(runner, replays[runner], 0);
            x.pass(1);
        }
        x.submit(3, c, 0);
        return x;
    }

    private static void placesHaveTies() {
        SplitGate x = fiveRunners();
        duePlaces("five", x, 0, 4, 2, 4, 1, 2);
        x.strike(1);
        duePlaces("four", x, 0, 3, -1, 3, 1, 2);
        x.strike(3);
        duePlaces("four, the first slower", x, 0, 2, -1, 2, 2, 1);
        x.submit(0, 0, 0);
        duePlaces("the first runner first", x, 0, 1, -1, 3, 3, 2);
    }

    private static void boardsAreOfTheirCategory() {
        SplitGate x = fiveRunners();
        duePlaces("the other category", x, 1);
        dueBoard("the other category", x, 1);
        x.submit(0, 0, 1);
        dueBest("the other category", x, 1, 0, 6);
        duePlaces("the other category", x, 1, 1);
        dueBoard("the other category", x, 1, 6);
        duePlaces("the category", x, 0, 4, 2, 4, 1, 2);
        dueBest("the category", x, 0, 0, 0);
        dueBest("the other category, other runner", x, 1, 3, -1);
        Check.due("placeWithout in the other category", x.placeWithout(6), -1);
        Check.due("placeWithout in the category", x.placeWithout(0), -1);
    }

    private static void atTellsTheBoardInOrder() {
        SplitGate x = fiveRunners();
        dueBoard("five", x, 0, 3, 1, 4, 0, 2);
        x.strike(3);
        dueBoard("five, the first slower", x, 0, 1, 4, 0, 2, 5);
        x.strike(1);
        dueBoard("four", x, 0, 4, 0, 2, 5);
        SplitGate y = Make.archive(1, 0);
        int replay = Make.walk(y, 0, 122);
        for (int i = 0; i < 8; i++) {
            y.submit(7 - i, replay, 0);
        }
        dueBoard("eight with a tie", y, 0, 0, 1, 2, 3, 4, 5, 6, 7);
        duePlaces("eight with a tie", y, 0, 1, 1, 1, 1, 1, 1, 1, 1);
    }

    private static void placeWithoutARun() {
        SplitGate x = fiveRunners();
        Check.due("without the only run", x.placeWithout(1), -1);
        Check.due("without the best run", x.placeWithout(3), 3);
        Check.due("without another run", x.placeWithout(5), 1);
        x.strike(3);
        Check.due("without a struck run", x.placeWithout(3), 3);
        Check.due("without the last run", x.placeWithout(5), -1);
        x.strike(5);
        Check.due("without a struck run, none left", x.placeWithout(3), -1);
        x.strike(3);
        Check.due("without the best run, none left", x.placeWithout(3), -1);
        Check.due("without a struck run, one left", x.placeWithout(5), 1);
        x.strike(5);
        int dashing = Make.replay(x, 0, Make.RIGHT + Make.DASH, 1, Make.RIGHT, 100, Make.RIGHT, 22);
        x.submit(0, dashing, 0);
        Check.due("place by a dash", x.place(0, 0), 1);
        Check.due("without the dash", x.placeWithout(6), 4);
        x.rule(0, 0, 2, 0, 500);
        Check.due("without a refused run", x.placeWithout(6), 4);
        Check.due("without the run that counts", x.placeWithout(0), -1);
    }

    private static void placeWithoutKeepsTheRun() {
        SplitGate x = fiveRunners();
        x.placeWithout(3);
        Check.due("judged behind placeWithout", x.judged(3), 0);
        dueBest("behind placeWithout", x, 0, 3, 3);
        dueBoard("behind placeWithout", x, 0, 3, 1, 4, 0, 2);
    }

    private static void bestAnewIsBest() {
        SplitGate x = Make.archive(1, 0);
        x.column(0, 4, 0, 1);
        x.column(0, 9, 1, 1);
        int right = Make.RIGHT;
        int leap = Make.RIGHT + Make.JUMP;
        int[] replays = {
            Make.replay(x, 0, right, 40, leap, 100),
            Make.replay(x, 0, right + Make.DASH, 1, right, 40, leap, 20, right, 1, leap, 90),
            Make.replay(x, 0, Make.LEFT, 1, right, 45, leap, 100),
        };
        int home = 0;
        for (int replay : replays) {
            if (x.result(replay) % 10 == 1) {
                x.submit(0, replay, 0);
                x.pass(1);
                x.submit(1, replay, 0);
                home++;
            }
        }
        Check.due("replays that come home", home, 3);
        int[][] rules = {{0, 0, 0, 500}, {0, 2, 0, 500}, {1, 0, 1, 500}, {1, 0, 2, 500}, {0, 0, 0, 2}, {1, 7, 0, 500}, {0, 0, 3, 500}, {0, 0, 2, 500}, {0, 4, 0, 500}};
        for (int[] rule : rules) {
            x.rule(0, rule[0], rule[1], rule[2], rule[3]);
            for (int runner = 0; runner < 3; runner++) {
                Check.due("bestAnew as best", x.bestAnew(0, runner), x.best(0, runner));
            }
        }
    }
}
