/** The sentences about boards: Terms, Boards, and promises 15 to 19. */
final class BoardSentences {
    /** The replays 0, 1, 2 and 3 come home behind 122, 123, 124 and 130 ticks. */
    private static final String FOUR = Make.walks(122, 123, 124, 130);

    /** The runs 0 to 4 by the runners 3, 2, 1, 0 and 5: ticks 123, 122, 122, 124 and 123. */
    private static final String FIVE_RUNNERS = FOUR
        + "; submit 3 1 0 = 0; submit 2 0 0 = 1; submit 1 0 0 = 2; submit 0 2 0 = 3; pass 1; submit 5 1 0 = 4";

    /** A run of the runner 0 by a dash, and one on foot: a rule that forbids dashes refuses the first. */
    private static final String DASH_AND_WALK = Make.HOME
        + "; replay 0; input 1 10 1; input 1 2 100; input 1 2 17; submit 0 1 0 = 0; submit 0 0 0 = 1";

    private BoardSentences() {
    }

    static void checkAll() {
        theBestRun();
        theBoard();
        thePlace();
        best("Promise 15", "best");
        best("Promise 16", "bestAnew");
        promise15And16();
        promise17();
        promise18();
        promise19();
    }

    /** Calls with a category and a runner that do not exist, around those that do. */
    static String bounds(String name, String answer) {
        String calls = "# 0 0 = I; level; # 0 0 = I; category 0; # 0 -1 = I; # 0 8 = I; # 0 MIN = I; # 0 MAX = I; # -1 0 = I; # 1 0 = I"
            + "; # 6 0 = I; # MIN 0 = I; # MAX 0 = I; # 1 8 = I; # 0 0 = @; # 0 7 = @; category 0; # 1 0 = @; # 1 7 = @; # 2 7 = I"
            + "; # 1 8 = I; category 0; category 0; category 0; category 0; # 5 7 = @; # 6 0 = I";
        return calls.replace("#", name).replace("@", answer);
    }

    private static void theBestRun() {
        Script.sentence("Terms", "The best run of a runner in a category is that one which counts with the fewest ticks,"
                + " of several the one of the earliest day, of these the lowest.",
            FOUR, "best 0 0 = -1; submit 0 1 0 = 0; best 0 0 = 0; submit 0 0 0 = 1; best 0 0 = 1; submit 0 2 0 = 2",
            "best 0 0 = 1",
            // One tick less is better, in each order.
            Script.NEW, FOUR, "submit 0 0 0; submit 0 1 0; best 0 0 = 0; bestAnew 0 0 = 0",
            Script.NEW, FOUR, "submit 0 1 0; submit 0 0 0; best 0 0 = 1; bestAnew 0 0 = 1",
            // As many ticks: the earliest day, of one day the lowest; then the next ones as they are struck.
            Script.NEW, FOUR, "submit 0 0 0; submit 0 0 0; pass 1; submit 0 0 0; submit 0 2 0; best 0 0 = 0; strike 0",
            "best 0 0 = 1; bestAnew 0 0 = 1; strike 1; best 0 0 = 2; bestAnew 0 0 = 2",
            "strike 2; best 0 0 = 3; strike 3; best 0 0 = -1; bestAnew 0 0 = -1; strike 2; best 0 0 = 2; strike 1",
            "best 0 0 = 1; strike 0; best 0 0 = 0",
            // An early day goes behind few ticks.
            Script.NEW, FOUR, "submit 0 1 0; pass 100; submit 0 0 0; best 0 0 = 1; bestAnew 0 0 = 1",
            // The ticks up to its end, whatever pieces are behind it: 122 of 322, and 123 of 123.
            Script.NEW, FOUR, "input 0 0 100; input 0 0 100 = 322; submit 0 1 0; submit 0 0 0; submit 1 1 0; submit 2 0 0",
            "best 0 0 = 1; bestAnew 0 0 = 1; place 0 0 = 1; place 0 1 = 3; at 0 0 = 1; at 0 1 = 3; at 0 2 = 2",
            "placeWithout 1 = 2",
            // Of the runner, and in the category.
            Script.NEW, FOUR, "submit 0 1 0; submit 1 0 0; submit 0 0 1; best 0 0 = 0; best 0 1 = 1; best 1 0 = 2",
            "best 1 1 = -1",
            // Only a run that counts.
            Script.NEW, DASH_AND_WALK, "best 0 0 = 0; rule 0 0 2 0 0 = 1; best 0 0 = 1; bestAnew 0 0 = 1; strike 1",
            "best 0 0 = -1; bestAnew 0 0 = -1; rule 0 0 0 0 0 = 0; best 0 0 = 0; bestAnew 0 0 = 0");
    }

    private static void theBoard() {
        Script.sentence("Terms", "The board of a category has the best runs of all runners who have one, in the same order.",
            FOUR, "at 0 0 = I; at 1 0 = I; submit 7 0 0; at 0 0 = 0; at 0 1 = I; at 1 0 = I; strike 0; at 0 0 = I",
            // By ticks, then by the day and the number, whatever the runners are called.
            Script.NEW, FIVE_RUNNERS, "at 0 0 = 1; at 0 1 = 2; at 0 2 = 0; at 0 3 = 4; at 0 4 = 3; at 0 5 = I; at 0 -1 = I",
            "strike 0; at 0 2 = 4; at 0 3 = 3; at 0 4 = I; strike 2; at 0 0 = 1; at 0 1 = 4; at 0 2 = 3; at 0 3 = I; strike 0",
            "at 0 1 = 0",
            // One run for each runner, the best one.
            Script.NEW, FOUR, "submit 0 0 0; submit 0 0 0; submit 0 1 0; at 0 0 = 0; at 0 1 = I; submit 1 0 0; at 0 0 = 0",
            "at 0 1 = 3; at 0 2 = I; strike 0; at 0 0 = 1; at 0 1 = 3; at 0 2 = I; strike 1; at 0 0 = 3; at 0 1 = 2",
            "at 0 2 = I",
            // All eight runners, all with the same ticks.
            Script.NEW, FOUR, Script.forAll(0, 7, "submit # 0 0 = #"), Script.forAll(0, 7, "at 0 # = #"),
            "at 0 8 = I; at 0 -1 = I; at 1 0 = I; strike 0", Script.forAll(1, 7, "best 0 # = #"),
            "at 0 0 = 1; at 0 6 = 7; at 0 7 = I",
            Script.NEW, FOUR, "submit 7 0 0; submit 6 0 0; submit 5 0 0; pass 1; submit 4 0 0; submit 3 0 0; submit 2 0 0",
            "submit 1 0 0; submit 0 0 0", Script.forAll(0, 7, "at 0 # = #"), "at 0 8 = I");
    }

    private static void thePlace() {
        Script.sentence("Terms", "The place of a runner is 1 more than the number of runners whose best run has fewer ticks.",
            FIVE_RUNNERS, "place 0 2 = 1; place 0 1 = 1; place 0 3 = 3; place 0 5 = 3; place 0 0 = 5; place 0 4 = -1",
            "place 1 2 = -1",
            // A runner counts once, with the best run alone; one tick less is enough.
            Script.NEW, FOUR, "submit 0 0 0; submit 0 0 0; submit 1 1 0; place 0 0 = 1; place 0 1 = 2; submit 0 2 0",
            "submit 2 2 0; place 0 2 = 3; strike 0; place 0 1 = 2; strike 1; place 0 0 = 2; place 0 1 = 1; place 0 2 = 2",
            Script.NEW, FOUR, Script.forAll(0, 7, "submit # 0 0"), Script.forAll(0, 7, "place 0 # = 1"),
            "submit 7 3 1; place 1 7 = 1; place 1 0 = -1",
            // Eight runners, each one tick behind the other: places 1 to 8.
            Script.NEW, Make.walks(122, 123, 124, 125, 126, 127, 128, 129), "submit 0 7 0; submit 1 6 0; submit 2 5 0",
            "submit 3 4 0; submit 4 3 0; submit 5 2 0; submit 6 1 0; submit 7 0 0",
            "place 0 0 = 8; place 0 1 = 7; place 0 2 = 6; place 0 3 = 5; place 0 4 = 4; place 0 5 = 3; place 0 6 = 2",
            "place 0 7 = 1; strike 7; place 0 7 = -1; place 0 0 = 7; place 0 6 = 1");
    }

    private static void best(String promise, String name) {
        String categories = "submit 0 0 1; # 0 0 = -1; # 1 0 = 0; # 2 0 = I";
        String runners = "submit 0 0 0; submit 7 0 0; # 0 0 = 0; # 0 7 = 1; # 0 8 = I; # 0 -1 = I; # 0 1 = -1; # 0 6 = -1";
        String runs = "# 0 0 = -1; submit 1 0 0; submit 0 0 1; # 0 0 = -1; submit 0 1 0; # 0 0 = 2; submit 0 0 0; # 0 0 = 3; strike 3"
            + "; # 0 0 = 2; strike 2; # 0 0 = -1; strike 3; # 0 0 = 3; rule 0 0 0 1 0; # 0 0 = -1";
        // The run 39 is the last one that there can be.
        String lastRun = "submit 0 0 0 = 39; # 0 0 = 39; strike 39; # 0 0 = 0";
        Script.sentence(promise, "`category`: a category", bounds(name, "-1"), Script.NEW, FOUR, categories.replace("#", name));
        Script.sentence(promise, "`runner`: 0 to 7", bounds(name, "-1"), Script.NEW, FOUR, runners.replace("#", name));
        Script.sentence(promise, "Returns the run, -1 if there is none.", FOUR, runs.replace("#", name),
            Script.NEW, FOUR, Script.times(39, "submit 0 1 0"), lastRun.replace("#", name));
        Script.sentence(promise, "Throws `IndexOutOfBoundsException` if there is no such category or runner", bounds(name, "-1"));
    }

    private static void promise15And16() {
        Script.sentence("Promise 15", "Returns the best run of a runner in a category.",
            FIVE_RUNNERS, "best 0 0 = 3; best 0 1 = 2; best 0 2 = 1; best 0 3 = 0; best 0 4 = -1; best 0 5 = 4; best 1 0 = -1",
            "submit 3 0 0 = 5; best 0 3 = 5");
        Script.sentence("Promise 16", "Returns the same, found by running all replays once more.",
            FIVE_RUNNERS, Script.forAll(0, 7, "best 0 #; bestAnew 0 #"), "bestAnew 0 0 = 3; bestAnew 0 3 = 0",
            "bestAnew 0 4 = -1; bestAnew 0 5 = 4; submit 3 0 0 = 5; bestAnew 0 3 = 5; where 0 5 = 28; result 0 = 1221",
            // Judged by what is found once more: a dash, a coin, a leap.
            Script.NEW, DASH_AND_WALK, "bestAnew 0 0 = 0; rule 0 0 2 0 0 = 1; bestAnew 0 0 = 1; rule 0 0 4 0 0 = 0",
            "bestAnew 0 0 = 0; rule 0 0 0 1 0 = 2; bestAnew 0 0 = -1",
            Script.NEW, "level; category 0; column 0 1 0 1; replay 0; input 0 2 1; input 0 10 1; input 0 2 100; input 0 2 16",
            "replay 0; input 1 6 1; input 1 2 100; input 1 2 21; submit 0 0 0; submit 0 1 0; used 0 = 2; used 1 = 10010",
            "bestAnew 0 0 = 0; rule 0 0 0 1 1; bestAnew 0 0 = 1; best 0 0 = 1; rule 0 0 0 1 0; bestAnew 0 0 = -1",
            "rule 0 0 0 0 0; bestAnew 0 0 = 0; best 0 0 = 0",
            // Home behind 20 pieces and with the 500th tick.
            Script.NEW, "level; category 0; replay 0", Script.times(18, "input 0 0 21"), "input 0 2 100; input 0 2 22 = 500",
            "result 0 = 5001; submit 0 0 0 = 0; bestAnew 0 0 = 0; where 0 500 = 496");
    }

    private static void promise17() {
        Script.sentence("Promise 17", "Returns the place of a runner in a category.", FIVE_RUNNERS,
            "place 0 5 = 3; submit 5 0 0; place 0 5 = 1; submit 5 0 1; place 1 5 = 1; place 1 0 = -1");
        Script.sentence("Promise 17", "`category`: a category", bounds("place", "-1"), Script.NEW, FOUR,
            "submit 0 0 1; place 0 0 = -1; place 1 0 = 1; place 2 0 = I");
        Script.sentence("Promise 17", "`runner`: 0 to 7", bounds("place", "-1"), Script.NEW, FOUR,
            "submit 0 0 0; submit 7 1 0; place 0 0 = 1; place 0 7 = 2; place 0 8 = I; place 0 -1 = I");
        Script.sentence("Promise 17", "Returns the place, -1 if the runner is not on the board.",
            FOUR, "place 0 0 = -1; submit 1 0 0; place 0 0 = -1; place 0 1 = 1; submit 0 0 1; place 0 0 = -1; submit 0 1 0",
            "place 0 0 = 2; strike 0; place 0 0 = 1; place 0 1 = -1; rule 0 0 0 1 0; place 0 0 = -1");
        Script.sentence("Promise 17", "Throws `IndexOutOfBoundsException` if there is no such category or runner", bounds("place", "-1"));
    }

    private static void promise18() {
        String categories = "at 0 0 = I; level; category 0; at 0 0 = I; replay 0; input 0 2 100; input 0 2 22; submit 0 0 0; at 0 0 = 0"
            + "; at 1 0 = I; at -1 0 = I; at 6 0 = I; at MIN 0 = I; at MAX 0 = I; category 0; at 1 0 = I; submit 0 0 1"
            + "; at 1 0 = 1; at 2 0 = I";
        String indexes = "at 0 0 = I; at 0 -1 = I; submit 0 0 0; at 0 0 = 0; at 0 -1 = I; at 0 1 = I; at 0 MIN = I; at 0 MAX = I"
            + "; submit 1 0 0; at 0 0 = 0; at 0 1 = 1; at 0 2 = I; at 1 0 = I; at 1 1 = I";
        Script.sentence("Promise 18", "Returns a run of the board of a category.", FIVE_RUNNERS,
            "submit 4 2 1 = 5; submit 1 3 1 = 6; at 0 0 = 1; at 0 4 = 3; at 1 0 = 5; at 1 1 = 6; at 1 2 = I");
        Script.sentence("Promise 18", "`category`: a category", categories);
        Script.sentence("Promise 18", "`index`: 0 for the first run", FOUR, indexes);
        Script.sentence("Promise 18", "Returns the run.", FOUR, "submit 7 3 0 = 0; at 0 0 = 0; submit 6 2 0 = 1; at 0 0 = 1",
            "at 0 1 = 0; submit 7 0 0 = 2; at 0 0 = 2; at 0 1 = 1",
            Script.NEW, FOUR, Script.times(39, "submit 0 1 0"), "submit 1 0 0 = 39; at 0 0 = 39; at 0 1 = 0; at 0 2 = I");
        Script.sentence("Promise 18",
            "Throws `IndexOutOfBoundsException` if there is no such category, or the board has not so many runs",
            categories, Script.NEW, FOUR, indexes, "strike 0; at 0 1 = I; at 0 0 = 1; strike 1; at 0 0 = I",
            Script.NEW, FOUR, Script.forAll(0, 7, "submit # 0 0 = #"), "at 0 7 = 7; at 0 8 = I; at 0 9 = I; rule 0 0 0 1 0",
            "at 0 7 = I; at 0 0 = I");
    }

    private static void promise19() {
        String without = "level; category 0; placeWithout 0 = I; replay 0; input 0 2 100; input 0 2 22; placeWithout 0 = I"
            + "; submit 0 0 0; placeWithout 0 = -1; placeWithout 1 = I; placeWithout -1 = I; placeWithout 40 = I; placeWithout MIN = I"
            + "; placeWithout MAX = I; submit 0 0 0; placeWithout 1 = 1; placeWithout 2 = I";
        Script.sentence("Promise 19", "Returns which place the runner of a run would have in its category, if the run was struck.",
            // Without the best run by the next one, also behind others; without another run as before.
            FIVE_RUNNERS, "submit 2 2 0 = 5; place 0 2 = 1; placeWithout 1 = 4; placeWithout 5 = 1; submit 2 0 0 = 6",
            "placeWithout 1 = 1; placeWithout 6 = 1; strike 6; placeWithout 1 = 4; placeWithout 6 = 1",
            // A run that is struck or refused already.
            "strike 1; place 0 2 = 4; placeWithout 1 = 4; placeWithout 5 = -1; placeWithout 6 = 4; judged 1 = 2; judged 5 = 0",
            "place 0 2 = 4; strike 1; place 0 2 = 1",
            Script.NEW, DASH_AND_WALK, "submit 1 1 0 = 2; placeWithout 0 = 2; placeWithout 1 = 1; rule 0 0 2 0 0 = 2",
            "placeWithout 0 = 1; placeWithout 1 = -1; placeWithout 2 = -1",
            // In its own category, with one tick between; struck is nothing by that.
            Script.NEW, FOUR, "submit 0 0 0; submit 0 1 0; submit 1 0 0; submit 0 3 1; placeWithout 0 = 2; placeWithout 1 = 1",
            "placeWithout 2 = -1; placeWithout 3 = -1; judged 0 = 0; best 0 0 = 0; best 1 0 = 3; place 0 0 = 1; at 0 0 = 0",
            "at 0 1 = 2");
        Script.sentence("Promise 19", "`run`: a run", without);
        Script.sentence("Promise 19", "Returns the place, -1 if the runner would not be on the board.",
            FOUR, "submit 0 0 0; placeWithout 0 = -1; submit 1 1 0; placeWithout 1 = -1; submit 0 2 0; placeWithout 0 = 2",
            "placeWithout 2 = 1; strike 2; placeWithout 0 = -1; placeWithout 2 = 1; strike 0; placeWithout 0 = -1",
            "placeWithout 2 = -1");
        Script.sentence("Promise 19", "Throws `IndexOutOfBoundsException` if there is no such run", without,
            Script.NEW, FOUR, Script.times(40, "submit 0 0 0"),
            "placeWithout 39 = 1; placeWithout 40 = I; placeWithout -1 = I");
    }
}
