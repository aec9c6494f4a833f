/** The sentences about the exceptions, their order, and that a call which throws changes nothing. */
final class ExceptionSentences {
    private static final String KINDS = "IndexOutOfBoundsException is thrown for a level, column, replay, tick, category, runner,"
        + " run, place or offer that does not exist, IllegalArgumentException for another argument out of range,"
        + " and IllegalStateException if a call is not possible now.";
    private static final String ORDER = "If several apply, IndexOutOfBoundsException goes first, then IllegalArgumentException.";
    private static final String NOTHING = "A call that throws an exception changes nothing.";

    /**
     * Two levels, with the categories 0 and 1; the replays 0, home, and 1 for the first, 2 for the second;
     * one run and one offer.
     */
    private static final String ARCHIVE = "level; level; category 0; category 1; column 0 7 0 1; column 1 0 2 0; column 1 3 0 1"
        + "; replay 0; input 0 2 100; input 0 2 22; replay 0; input 1 2 9; replay 1; input 2 2 100"
        + "; pass 3; rule 0 2 1 0 3; submit 2 0 0 = 0; offer 0 2 = 0; gift 0 5 = 5";

    private ExceptionSentences() {
    }

    static void checkAll() {
        kinds();
        orderOfTwo();
        orderOfThree();
        nothing();
    }

    private static void kinds() {
        Script.sentence("Terms", KINDS,
            // A level and a column; a replay; a tick.
            ARCHIVE, "column 2 0 0 0 = I; column 1 32 0 0 = I; replay 2 = I; category 2 = I; input 3 0 1 = I; result 3 = I",
            "used 3 = I; where 3 0 = I; submit 0 3 0 = I; where 0 123 = I; where 1 10 = I",
            // A category, a runner, a run, a place, an offer.
            "rule 2 0 0 0 0 = I; submit 0 0 2 = I; best 2 0 = I; bestAnew 2 0 = I; place 2 0 = I; at 2 0 = I",
            "estimate 2 0 = I; offer 2 0 = I",
            "submit 8 0 0 = I; best 0 8 = I; bestAnew 0 8 = I; place 0 8 = I; estimate 0 8 = I; offer 0 8 = I; judged 1 = I",
            "strike 1 = I; placeWithout 1 = I; at 0 1 = I; gift 1 1 = I",
            Script.NEW, ARCHIVE, "replay -1 = I; category -1 = I; input -1 0 1 = I; result -1 = I; used -1 = I",
            "where -1 0 = I; where 0 -1 = I; submit 0 -1 0 = I; rule -1 0 0 0 0 = I; submit 0 0 -1 = I; best -1 0 = I",
            "bestAnew -1 0 = I; place -1 0 = I; at -1 0 = I; estimate -1 0 = I; offer -1 0 = I; submit -1 0 0 = I",
            "best 0 -1 = I; bestAnew 0 -1 = I; place 0 -1 = I; estimate 0 -1 = I; offer 0 -1 = I; judged -1 = I",
            "strike -1 = I; placeWithout -1 = I; at 0 -1 = I; gift -1 1 = I",
            // Another argument out of range.
            Script.NEW, "level; column 0 0 7 0 = A; column 0 0 0 3 = A; pass 0 = A; plan 10001 = A",
            Script.NEW, ARCHIVE, "input 1 16 1 = A; input 1 0 101 = A; rule 0 1001 0 0 0 = A; rule 0 0 8 0 0 = A",
            "rule 0 0 0 33 0 = A; rule 0 0 0 0 501 = A; pass 101 = A; submit 0 0 1 = A; gift 0 1001 = A; plan -1 = A",
            // Not possible now.
            Script.NEW, ARCHIVE, "column 0 0 0 0 = S; input 0 0 1 = S; submit 0 1 0 = S; offer 0 2 = S; offer 0 0 = S",
            "strike 0; gift 0 1 = S; level; level = S");
    }

    private static void orderOfTwo() {
        Script.sentence("Terms", ORDER,
            // column: no such level or column, height or item out of range, a replay for the level.
            ARCHIVE, "column 2 0 7 0 = I; column 2 0 0 3 = I; column -1 0 -2 0 = I; column 1 32 7 0 = I; column 1 -1 0 3 = I",
            "column 0 32 0 0 = I; column 0 -1 0 0 = I; column 0 0 7 0 = A; column 0 0 -2 0 = A; column 0 0 0 3 = A",
            "column 0 0 0 -1 = A; column 0 32 7 3 = I; column 0 0 0 0 = S",
            // input: no such replay, buttons or ticks out of range, submitted.
            Script.NEW, ARCHIVE, "input 3 16 1 = I; input 3 0 0 = I; input -1 -1 101 = I; input 0 16 1 = A; input 0 -1 1 = A",
            "input 0 0 0 = A; input 0 0 101 = A; input 0 0 1 = S",
            // rule: no such category, each argument out of range.
            Script.NEW, ARCHIVE, "rule 2 -1 0 0 0 = I; rule 2 1001 0 0 0 = I; rule -1 0 8 0 0 = I; rule 2 0 0 33 0 = I",
            "rule 2 0 0 0 501 = I; rule 2 -1 -1 -1 -1 = I",
            // submit: no such runner, replay or category, another level, not home.
            Script.NEW, ARCHIVE, "submit 8 0 1 = I; submit -1 0 1 = I; submit 8 1 0 = I; submit 0 3 0 = I; submit 0 3 1 = I",
            "submit 0 1 2 = I; submit 0 0 2 = I; submit 8 1 1 = I; submit 0 1 1 = A; submit 0 2 0 = A; submit 0 0 1 = A",
            "submit 0 1 0 = S; submit 0 2 1 = S",
            // offer: no such category or runner, not on the board or offered already.
            Script.NEW, ARCHIVE, "offer 2 2 = I; offer -1 2 = I; offer 0 8 = I; offer 1 8 = I; offer 2 8 = I; offer 0 2 = S",
            "offer 1 2 = S",
            // gift: no such offer, the amount out of range, not open.
            Script.NEW, ARCHIVE, "gift 1 0 = I; gift -1 1001 = I; strike 0; gift 0 0 = A; gift 0 1001 = A; gift 1 1 = I",
            "gift 1 0 = I; gift 0 1 = S",
            // pass: the days out of range, above the day 1000.
            Script.NEW, Script.times(10, "pass 100"), "pass 0 = A; pass 101 = A; pass -1 = A; pass MAX = A; pass 1 = S",
            "pass 100 = S");
    }

    private static void orderOfThree() {
        Script.sentence("Terms", ORDER,
            // replay and category: no such level, no more room.
            "level", Script.times(20, "replay 0"), "replay 1 = I; replay -1 = I; replay MAX = I; replay 0 = S",
            Script.times(6, "category 0"), "category 1 = I; category -1 = I; category MIN = I; category 0 = S",
            // input with 20 pieces, and with 500 ticks.
            Script.NEW, "level; replay 0", Script.times(20, "input 0 0 1"), "input 1 16 0 = I; input 0 16 1 = A",
            "input 0 -1 1 = A; input 0 0 0 = A; input 0 0 101 = A; input 0 0 1 = S",
            Script.NEW, "level; replay 0", Script.times(5, "input 0 0 100"), "input 1 0 101 = I; input 0 16 1 = A",
            "input 0 0 0 = A; input 0 0 101 = A; input 0 0 1 = S",
            // rule with 10 rules.
            Script.NEW, ARCHIVE, Script.times(9, "rule 0 0 0 0 500"), "rule 2 0 0 0 0 = I; rule -1 -1 8 33 501 = I",
            "rule 0 -1 0 0 0 = A; rule 0 1001 0 0 0 = A; rule 0 0 -1 0 0 = A; rule 0 0 8 0 0 = A; rule 0 0 0 -1 0 = A",
            "rule 0 0 0 33 0 = A; rule 0 0 0 0 -1 = A; rule 0 0 0 0 501 = A; rule 0 0 0 0 0 = S",
            // submit with 40 runs.
            Script.NEW, ARCHIVE, Script.times(39, "submit 3 0 0"), "submit 8 0 0 = I; submit 0 3 0 = I; submit 0 0 2 = I",
            "submit 8 0 1 = I; submit 0 0 1 = A; submit 0 1 1 = A; submit 0 2 0 = A; submit 0 0 0 = S; submit 0 1 0 = S",
            // offer with 10 offers.
            Script.NEW, Make.HOME, "category 0", Script.forAll(0, 7, "submit # 0 0; offer 0 #"),
            "submit 0 0 1; submit 1 0 1; submit 2 0 1; offer 1 0 = 8; offer 1 1 = 9; offer 2 0 = I; offer 1 8 = I",
            "offer 0 -1 = I; offer 1 2 = S; offer 1 3 = S; offer 0 0 = S");
    }

    /** Each exception of each call; Script compares what other calls answer before and behind each of them. */
    private static void nothing() {
        Script.sentence("Terms", NOTHING,
            "level; level; level; level = S; column 3 0 1 1 = I; column 0 32 1 1 = I; column 0 5 7 1 = A; column 0 5 1 3 = A",
            "column 1 0 1 0; replay 1; column 1 0 2 2 = S; column 1 2 -1 1 = S; where 0 0 = 16008; input 0 2 9",
            "where 0 9 = 44; result 0 = 90; used 0 = 0; replay 0; where 1 0 = 8",
            Script.NEW, ARCHIVE, "replay 2 = I; replay -1 = I; result 3 = I; replay 0 = 3", Script.NEW, "level",
            Script.times(20, "replay 0"), "replay 0 = S; result 20 = I; result 19 = 0",
            Script.NEW, ARCHIVE, "input 3 4 1 = I; input 1 16 1 = A; input 1 4 0 = A; input 1 4 101 = A; input 0 4 1 = S",
            "result 0 = 1221; result 1 = 90; input 1 2 1 = 10; where 1 10 = 48",
            Script.NEW, "level; replay 0", Script.times(19, "input 0 0 1"), "input 0 8 0 = A; input 0 0 1 = 20",
            "input 0 2 1 = S; result 0 = 200; where 0 20 = 8",
            Script.NEW, "level; replay 0", Script.times(4, "input 0 0 100"), "input 0 0 99; input 0 2 2 = S",
            "input 0 2 1 = 500; where 0 500 = 12",
            Script.NEW, ARCHIVE, "result 3 = I; used 3 = I; where 3 0 = I; where 0 123 = I; where 0 -1 = I; where 0 5 = 28",
            Script.NEW, ARCHIVE, "category 2 = I; category 0 = 2", Script.times(3, "category 0"),
            "category 0 = S; best 5 2 = -1; best 6 2 = I",
            Script.NEW, ARCHIVE, "rule 2 0 0 2 0 = I; rule 0 1001 0 2 0 = A; rule 0 3 8 2 0 = A; rule 0 3 0 33 0 = A",
            "rule 0 3 0 2 501 = A; rule 0 -1 7 2 0 = A; judged 0 = 0", Script.times(9, "rule 0 0 0 0 500"),
            "rule 0 3 0 2 0 = S; judged 0 = 0");
        Script.sentence("Terms", NOTHING,
            ARCHIVE, "pass 0 = A; pass 101 = A; pass -1 = A; pass 1 = 4", Script.times(9, "pass 100"),
            "pass 97 = S; pass 96 = 1000; pass 1 = S; submit 0 0 0 = 1; rule 0 1000 0 2 0 = 1",
            Script.NEW, ARCHIVE, "submit 8 0 0 = I; submit 0 3 0 = I; submit 0 0 2 = I; submit 0 0 1 = A; submit 0 1 0 = S",
            "judged 1 = I; best 0 0 = -1; input 1 0 1 = 10; submit 1 0 0 = 1",
            Script.NEW, ARCHIVE, "replay 0; input 3 2 100; input 3 2 22; submit 0 3 1 = A; input 3 0 1 = 123",
            "submit 8 3 0 = I; input 3 0 1 = 124", Script.times(39, "submit 3 0 0"), "submit 0 3 0 = S; input 3 0 1 = 125",
            "best 0 0 = -1",
            Script.NEW, ARCHIVE, "judged 1 = I; judged -1 = I; strike 1 = I; strike -1 = I; judged 0 = 0; placeWithout 1 = I",
            "placeWithout -1 = I; place 0 2 = 1; best 2 0 = I; best 0 8 = I; bestAnew 2 0 = I; bestAnew 0 8 = I",
            "place 2 0 = I; place 0 8 = I; at 2 0 = I; at 0 1 = I; at 0 -1 = I; best 0 2 = 0",
            Script.NEW, ARCHIVE, "estimate 2 0 = I; estimate 0 8 = I; offer 2 0 = I; offer 0 8 = I; offer 0 0 = S",
            "offer 0 2 = S; submit 0 0 0; offer 0 0 = 1; gift 1 1 = 1; plan 300 = 3",
            Script.NEW, ARCHIVE, "gift 1 7 = I; gift -1 7 = I; gift 0 0 = A; gift 0 1001 = A; strike 0; gift 0 7 = S",
            "strike 0; gift 0 1 = 6; plan -1 = A; plan 10001 = A; plan 135 = 1; plan 134 = 0",
            Script.NEW, Make.HOME, "category 0", Script.forAll(0, 7, "submit # 0 0; offer 0 #"),
            "submit 0 0 1; submit 1 0 1; submit 2 0 1; offer 1 0 = 8; offer 1 1 = 9; offer 1 2 = S; gift 10 1 = I",
            "plan 10000 = 0");
    }
}
