/** The sentences about rules and runs: Terms, Rules and runs, and promises 9 to 14. */
final class RuleSentences {
    /** Runs of the runner 0 on the days 0, 1 and 2 in the category 0; a rule that asks for a coin refuses them. */
    private static final String THREE_DAYS = Make.HOME
        + "; category 0; submit 0 0 0 = 0; pass 1; submit 0 0 0 = 1; pass 1; submit 0 0 0 = 2";

    private RuleSentences() {
    }

    static void checkAll() {
        categoriesAndRules();
        deeds();
        runs();
        promise9();
        promise10();
        promise11();
        promise12();
        promise13();
        promise14();
    }

    private static String judged(int... judged) {
        StringBuilder told = new StringBuilder();
        for (int run = 0; run < judged.length; run++) {
            told.append(run == 0 ? "" : "; ").append("judged ").append(run).append(" = ").append(judged[run]);
        }
        return told.toString();
    }

    private static void categoriesAndRules() {
        Script.sentence("Terms", "Categories are numbered from 0, at most 6; a category is for a level.",
            "category 0 = I; level; best 0 0 = I", Script.forAll(0, 4, "category 0 = #"), "best 4 0 = -1; best 5 0 = I",
            "category 0 = 5; best 5 0 = -1; best 6 0 = I",
            "category 0 = S; category 0 = S; best 6 0 = I; rule 6 0 0 0 0 = I; rule 5 0 0 0 0 = 0; replay 0; input 0 2 100",
            "input 0 2 22; submit 0 0 5; category 0 = S; best 5 0 = 0; rule 5 0 0 1 0 = 1; category 0 = S; judged 0 = 1",
            "best 5 0 = -1",
            Script.NEW, Make.HOME, "level; category 1; submit 0 0 1 = A; submit 0 0 0 = 0");
        String rules = "A rule of a category is told with a day from which it holds; on a day the rule with the latest such day holds"
            + " that is not later, of several with that the one told last; ahead of all rules everything is allowed.";
        Script.sentence("Terms", rules, THREE_DAYS, judged(0, 0, 0), "rule 0 2 0 1 0 = 1", judged(0, 0, 1),
            "rule 0 1 0 1 0 = 2", judged(0, 1, 1),
            "rule 0 0 0 1 0 = 3", judged(1, 1, 1),
            Script.NEW, THREE_DAYS, "rule 0 3 0 1 0 = 0", judged(0, 0, 0), "pass 1; submit 0 0 0 = 3; judged 3 = 1", judged(0, 0, 0, 1),
            // The latest day holds, however early it was told; on each side of it.
            Script.NEW, THREE_DAYS, "rule 0 1 0 0 500 = 0; rule 0 0 0 1 500 = 1", judged(1, 0, 0), "rule 0 2 0 1 500 = 2",
            judged(1, 0, 1), "rule 0 1 0 1 500 = 3; rule 0 0 0 0 500 = 2", judged(0, 1, 1),
            // Of one day the one told last, also when others were told between, and of the day 0.
            Script.NEW, THREE_DAYS, "rule 0 1 0 1 500 = 2; rule 0 1 0 0 500 = 0",
            judged(0, 0, 0), "rule 0 2 0 1 500 = 1; rule 0 1 0 1 500 = 2; rule 0 2 0 0 500 = 1", judged(0, 1, 0),
            Script.NEW, THREE_DAYS, "rule 0 0 0 1 500 = 3; rule 0 0 0 0 500 = 0; rule 0 0 0 1 500 = 3", judged(1, 1, 1),
            // A rule of another category is none of its.
            Script.NEW, THREE_DAYS, "rule 1 0 7 32 0 = 0", judged(0, 0, 0), "submit 0 0 1 = 3; judged 3 = 1", judged(0, 0, 0, 1));
    }

    private static void deeds() {
        String rule = "A rule forbids some of these: having gone left (1), that is a way below 0 in a tick, having dashed (2),"
            + " having clipped (4); and it asks for at least some coins and at most some jumps"
            + " (those that were leapt in step 2, not each press).";
        // A way below 0 that leads nowhere, at the left end; LEFT with RIGHT is no way below 0.
        Script.sentence("Terms", rule,
            "level; category 0; replay 0; input 0 1 3; input 0 2 100; input 0 2 24; result 0 = 1271; used 0 = 1",
            "submit 0 0 0 = 0",
            "rule 0 0 1 0 0 = 1; rule 0 0 6 0 0 = 0; rule 0 0 7 0 0 = 1",
            Script.NEW, "level; category 0; replay 0; input 0 3 1; input 0 2 100; input 0 2 22; result 0 = 1231; used 0 = 0",
            "submit 0 0 0; rule 0 0 7 0 0 = 0",
            // Into the wall that it fell from: no move, and gone left all the same.
            Script.NEW, "level; category 0; column 0 0 1 0; replay 0; input 0 2 2; input 0 1 1; where 0 3 = 10016",
            "input 0 2 100; input 0 2 20; result 0 = 1231; used 0 = 1; submit 0 0 0",
            "rule 0 0 1 0 0 = 1; rule 0 0 6 0 0 = 0",
            // A dash, also one that is blocked; a press of DASH without a way is none.
            Script.NEW, "level; category 0; replay 0; input 0 10 1; input 0 2 100; input 0 2 17; result 0 = 1181",
            "submit 0 0 0; rule 0 0 2 0 0 = 1; rule 0 0 5 0 0 = 0; rule 0 0 7 0 0 = 1",
            Script.NEW, "level; category 0; replay 0; input 0 8 1; input 0 2 100; input 0 2 22; result 0 = 1231; submit 0 0 0",
            "rule 0 0 7 0 0 = 0",
            Script.NEW, "level; category 0; column 0 1 1 0; column 0 2 1 0; replay 0; input 0 10 1; where 0 1 = 8",
            "input 0 0 1; input 0 4 2; input 0 2 100; input 0 2 22",
            "result 0 = 1261; used 0 = 12; submit 0 0 0; rule 0 0 2 0 500 = 1; rule 0 0 5 0 500 = 0",
            // A clip, which is also a dash.
            Script.NEW, "level; category 0; column 0 1 1 0; replay 0; input 0 2 1; input 0 10 1; input 0 2 100; input 0 2 16",
            "result 0 = 1181; used 0 = 6; submit 0 0 0",
            "rule 0 0 4 0 0 = 1; rule 0 0 2 0 0 = 1; rule 0 0 1 0 0 = 0; rule 0 0 5 0 0 = 1; rule 0 0 0 0 0 = 0");
        Script.sentence("Terms", rule,
            "level; category 0; column 0 5 0 1; column 0 9 0 1; replay 0; input 0 2 100; input 0 2 22; submit 0 0 0",
            "rule 0 0 0 0 0 = 0; rule 0 0 0 1 0 = 0; rule 0 0 0 2 0 = 0; rule 0 0 0 3 0 = 1; rule 0 0 0 32 500 = 1",
            Script.NEW, "level; category 0", Script.forAll(0, 31, "column 0 # 0 1"), "replay 0; input 0 2 100; input 0 2 22",
            "submit 0 0 0; rule 0 0 0 32 0 = 0",
            Script.NEW, "level; category 0", Script.forAll(1, 31, "column 0 # 0 1"), "replay 0; input 0 2 100; input 0 2 22",
            "submit 0 0 0; rule 0 0 0 32 0 = 1; rule 0 0 0 31 0 = 0",
            // Two leaps, and a press in the air between them.
            Script.NEW, "level; category 0; replay 0; input 0 6 1; input 0 2 1; input 0 6 1; input 0 2 12; input 0 6 1",
            "input 0 2 100; input 0 2 6; result 0 = 1221; used 0 = 20; submit 0 0 0",
            "rule 0 0 0 0 500 = 0; rule 0 0 0 0 2 = 0; rule 0 0 0 0 1 = 1; rule 0 0 0 0 0 = 1; rule 0 0 0 0 3 = 0");
    }

    private static void runs() {
        Script.sentence("Terms", "Days are counted from 0.",
            Make.HOME, "submit 0 0 0; rule 0 1 0 1 0 = 0; rule 0 0 0 1 0 = 1; pass 1 = 1; submit 0 0 0; judged 1 = 1",
            "rule 0 0 0 0 0 = 1; judged 1 = 1; judged 0 = 0");
        Script.sentence("Terms", "Runs are numbered from 0, at most 40.",
            Make.HOME, "judged 0 = I; strike 0 = I; placeWithout 0 = I", Script.forAll(0, 38, "submit 0 0 0 = #"),
            "judged 38 = 0; judged 39 = I; submit 0 0 0 = 39; judged 39 = 0; judged 40 = I",
            "submit 0 0 0 = S; submit 7 0 0 = S; judged 40 = I; best 0 7 = -1; strike 39 = true; submit 0 0 0 = S");
        Script.sentence("Terms", "A run is a replay that comes home, submitted by a runner, 0 to 7, for a category of its level,"
                + " on the day of now.",
            Make.HOME, "submit -1 0 0 = I; submit 8 0 0 = I; submit 0 0 0 = 0; submit 7 0 0 = 1; best 0 0 = 0; best 0 7 = 1",
            Script.NEW, Make.HOME, "replay 0; submit 0 1 0 = S; input 1 2 100; input 1 2 21; submit 0 1 0 = S; input 1 2 1",
            "submit 0 1 0 = 0",
            Script.NEW, "level; category 0; column 0 31 0 2; replay 0; input 0 2 100; input 0 2 22; result 0 = 1222",
            "submit 0 0 0 = S",
            Script.NEW, Make.HOME, "level; category 1; category 0; submit 0 0 1 = A; submit 0 0 2 = 0; best 2 0 = 0",
            "best 0 0 = -1; best 1 0 = -1",
            // The day of now: a rule from the day 5 refuses the run of that day, not the one of the day before.
            Script.NEW, Make.HOME, "pass 4; submit 0 0 0; pass 1; submit 0 0 0; rule 0 5 0 1 0 = 1; judged 0 = 0",
            "judged 1 = 1; pass 95; submit 0 0 0; rule 0 100 0 0 0 = 1; judged 2 = 0; rule 0 101 0 1 0 = 1");
        Script.sentence("Terms", "A run is refused if the rule of its category that holds on its day, as rules are told now,"
                + " forbids something that it did, or it has too few coins or too many jumps.",
            // Left, dash, one leap, one coin: each of the reasons alone, then none.
            "level; category 0; category 0; column 0 0 0 1; replay 0; input 0 1 1; input 0 0 1; input 0 10 1; input 0 6 1",
            "input 0 2 100; input 0 2 17; result 0 = 1211; used 0 = 10013; submit 0 0 0; judged 0 = 0",
            "rule 0 0 1 0 500 = 1; rule 0 0 2 0 500 = 1; rule 0 0 4 1 1 = 0; rule 0 0 0 2 500 = 1; rule 0 0 0 1 1 = 0",
            "rule 0 0 0 0 0 = 1; rule 0 0 0 1 500 = 0; rule 0 0 3 32 0 = 1; judged 0 = 1",
            Script.NEW, THREE_DAYS, "rule 0 1 0 1 0 = 2", judged(0, 1, 1), "rule 0 1 0 0 0 = 0",
            judged(0, 0, 0), "rule 1 0 0 1 0 = 0", judged(0, 0, 0));
        Script.sentence("Terms", "A run counts if it is neither refused nor struck.",
            Make.HOME, "submit 0 0 0; judged 0 = 0; best 0 0 = 0; strike 0; judged 0 = 2; best 0 0 = -1; strike 0",
            "best 0 0 = 0",
            "rule 0 0 0 1 0 = 1; judged 0 = 1; best 0 0 = -1; strike 0; judged 0 = 3; best 0 0 = -1; rule 0 0 0 0 0 = 0",
            "judged 0 = 2; best 0 0 = -1; strike 0; judged 0 = 0; best 0 0 = 0");
    }

    private static void promise9() {
        Script.sentence("Promise 9", "Adds a category.", "level; best 0 0 = I; category 0; best 0 0 = -1; at 0 0 = I",
            "rule 0 0 0 0 0 = 0; best 1 0 = I; category 0; best 1 0 = -1");
        Script.sentence("Promise 9", "`level`: a level", Make.HOME, "level; category -1 = I; category 2 = I; category MIN = I",
            "category MAX = I; category 1 = 1; category 0 = 2; submit 0 0 1 = A; submit 0 0 2 = 0");
        Script.sentence("Promise 9", "Returns its number.",
            "level; level", Script.forAll(0, 3, "category 0 = #"), Script.forAll(4, 5, "category 1 = #"));
        Script.sentence("Promise 9", "Throws `IndexOutOfBoundsException` if there is no such level",
            "category 0 = I; level; category 0 = 0; category 1 = I; category -1 = I; level; category 1 = 1; category 2 = I",
            "level; category 2 = 2; category 3 = I; best 3 0 = I");
        Script.sentence("Promise 9", "Throws `IllegalStateException` if there are 6 categories",
            "level; level", Script.forAll(0, 4, "category 0 = #"), "category 1 = 5; category 0 = S; category 1 = S",
            "best 5 0 = -1; best 6 0 = I",
            "replay 1; input 0 2 100; input 0 2 22; submit 0 0 5 = 0; category 0 = S; category 1 = S; best 5 0 = 0",
            "place 5 0 = 1; rule 5 0 0 1 0 = 1; category 1 = S; judged 0 = 1");
    }

    private static void promise10() {
        Script.sentence("Promise 10", "Tells a rule; runs of all days are judged by it from now on.",
            // The runs of the days that are over, of the day of now, and of days to come.
            THREE_DAYS, judged(0, 0, 0), "rule 0 0 0 1 0 = 3",
            judged(1, 1, 1), "pass 100; submit 1 0 0 = 3; judged 3 = 1; best 0 1 = -1", judged(1, 1, 1, 1),
            "rule 0 0 0 0 0 = 0", judged(0, 0, 0, 0));
        String rule = THREE_DAYS + "; rule 0 0 0 0 500 = 0; ";
        Script.sentence("Promise 10", "`category`: a category",
            rule + "rule -1 0 0 1 0 = I; rule 2 0 0 1 0 = I; rule 6 0 0 1 0 = I",
            "rule MIN 0 0 1 0 = I; rule MAX 0 0 1 0 = I; rule 1 0 0 1 0 = 0",
            judged(0, 0, 0), "rule 0 0 0 1 0 = 3", judged(1, 1, 1));
        Script.sentence("Promise 10", "`day`: 0 to 1000, also one that is over",
            rule + "rule 0 -1 0 1 0 = A; rule 0 1001 0 1 0 = A; rule 0 MIN 0 1 0 = A; rule 0 MAX 0 1 0 = A",
            judged(0, 0, 0), "rule 0 1000 0 1 0 = 0", judged(0, 0, 0), "rule 0 1 0 1 0 = 2; rule 0 0 0 1 0 = 3", judged(1, 1, 1),
            // A rule from the last day holds on it.
            Script.NEW, Make.HOME, "rule 0 1000 0 1 0 = 0", Script.times(9, "pass 100"), "pass 99 = 999; submit 0 0 0",
            "judged 0 = 0; pass 1 = 1000; submit 0 0 0; judged 1 = 1; judged 0 = 0; rule 0 1000 0 0 0 = 0",
            "rule 0 999 0 1 0 = 1");
        Script.sentence("Promise 10", "`forbidden`: a set, 0 to 7",
            rule + "rule 0 0 -1 0 500 = A; rule 0 0 8 0 500 = A; rule 0 0 MIN 0 500 = A; rule 0 0 MAX 0 500 = A",
            judged(0, 0, 0), "rule 0 0 7 0 500 = 0",
            // Left, dashed and clipped: refused by each set but the empty one.
            Script.NEW, "level; category 0; column 0 1 1 0; replay 0; input 0 1 1; input 0 2 2; input 0 10 1; input 0 2 100",
            "input 0 2 17; result 0 = 1201; used 0 = 7; submit 0 0 0",
            Script.forAll(1, 7, "rule 0 0 # 0 500 = 1; judged 0 = 1"), "rule 0 0 0 0 500 = 0; judged 0 = 0");
        Script.sentence("Promise 10", "`coins`: 0 to 32: how many coins there have to be",
            rule + "rule 0 0 0 -1 500 = A; rule 0 0 0 33 500 = A; rule 0 0 0 MIN 500 = A; rule 0 0 0 MAX 500 = A",
            judged(0, 0, 0), "rule 0 0 0 32 500 = 3; rule 0 0 0 0 500 = 0; rule 0 0 0 1 500 = 3");
        Script.sentence("Promise 10", "`jumps`: 0 to 500: how many jumps are allowed",
            rule + "rule 0 0 0 1 -1 = A; rule 0 0 0 1 501 = A; rule 0 0 0 1 MIN = A; rule 0 0 0 1 MAX = A",
            judged(0, 0, 0), "rule 0 0 0 1 500 = 3; rule 0 0 0 0 500 = 0; rule 0 0 0 0 0 = 0",
            Script.NEW, "level; category 0; replay 0; input 0 6 1; input 0 2 100; input 0 2 21; result 0 = 1221; submit 0 0 0",
            "rule 0 0 0 0 0 = 1; rule 0 0 0 0 1 = 0; rule 0 0 0 0 500 = 0");
        Script.sentence("Promise 10", "Returns how many runs of the category are refused then.",
            "level; category 0; rule 0 0 7 32 0 = 0",
            // By this rule or an earlier one, struck or not, of this category alone.
            Script.NEW, THREE_DAYS, "submit 0 0 1 = 3; rule 0 2 0 1 0 = 1; strike 2; strike 0; rule 0 0 0 1 0 = 3",
            "rule 0 1 0 0 0 = 2; rule 1 0 0 1 0 = 1; rule 0 1000 0 0 0 = 2; strike 2; rule 0 1000 0 1 0 = 2",
            Script.NEW, Make.HOME, Script.times(40, "submit 0 0 0"), "rule 0 0 0 1 0 = 40; rule 0 0 0 0 0 = 0");
        Script.sentence("Promise 10", "Throws `IndexOutOfBoundsException` if there is no such category",
            "rule 0 0 0 0 0 = I; level; rule 0 0 0 0 0 = I; category 0; rule 0 0 0 0 0 = 0; rule 1 0 0 0 0 = I",
            "rule -1 0 0 0 0 = I", Script.times(5, "category 0"), "rule 5 0 0 0 0 = 0; rule 6 0 0 0 0 = I");
        Script.sentence("Promise 10", "Throws `IllegalArgumentException` if day, forbidden, coins or jumps is out of range",
            rule + "rule 0 -1 0 1 0 = A; rule 0 1001 0 1 0 = A; rule 0 0 -1 1 0 = A; rule 0 0 8 1 0 = A; rule 0 0 0 -1 0 = A",
            "rule 0 0 0 33 0 = A; rule 0 0 0 1 -1 = A; rule 0 0 0 1 501 = A; rule 0 -1 8 33 501 = A",
            // None of them was told: nine more rules are taken.
            judged(0, 0, 0), Script.times(8, "rule 0 0 0 0 500 = 0"), "rule 0 0 0 1 500 = 3; rule 0 0 0 0 500 = S");
        Script.sentence("Promise 10", "Throws `IllegalStateException` if the category has 10 rules",
            THREE_DAYS, Script.times(9, "rule 0 0 0 0 500 = 0"), "rule 0 0 0 1 500 = 3; rule 0 0 0 0 500 = S",
            "rule 0 1000 0 0 500 = S; rule 0 2 0 0 500 = S", judged(1, 1, 1),
            Script.times(10, "rule 1 0 0 0 500 = 0"), "rule 1 0 0 0 500 = S");
    }

    private static void promise11() {
        Script.sentence("Promise 11", "Lets days pass.", Make.HOME, "pass 3; submit 0 0 0; rule 0 4 0 1 0 = 0",
            "rule 0 3 0 1 0 = 1");
        Script.sentence("Promise 11", "`days`: 1 to 100", "pass 0 = A; pass -1 = A; pass 101 = A; pass MIN = A; pass MAX = A",
            "pass 1 = 1; pass 100 = 101; pass 0 = A; pass 1 = 102");
        Script.sentence("Promise 11", "Returns the day then.",
            "pass 1 = 1; pass 1 = 2; pass 99 = 101; pass 100 = 201; pass 7 = 208");
        Script.sentence("Promise 11", "Throws `IllegalArgumentException` if days is out of range",
            "pass 5; pass 0 = A; pass 101 = A; pass -1 = A; pass MAX = A; pass MIN = A; pass 1 = 6");
        Script.sentence("Promise 11", "Throws `IllegalStateException` if the day would be above 1000",
            Script.times(10, "pass 100"), "pass 1 = S; pass 100 = S; pass 1 = S",
            Script.NEW, Script.times(9, "pass 100"), "pass 99 = 999; pass 2 = S; pass 100 = S; pass 1 = 1000; pass 1 = S",
            Script.NEW, Script.times(9, "pass 100"), "pass 1 = 901; pass 100 = S; pass 99 = 1000; pass 1 = S",
            // Runs are taken on the last day.
            Script.NEW, Make.HOME, Script.times(10, "pass 100"), "pass 1 = S; submit 0 0 0 = 0; rule 0 1000 0 1 0 = 1");
    }

    private static void promise12() {
        Script.sentence("Promise 12", "Submits a replay as a run.",
            Make.HOME, "judged 0 = I; submit 3 0 0 = 0; judged 0 = 0; best 0 3 = 0; at 0 0 = 0; input 0 0 1 = S",
            "submit 3 0 0 = 1; submit 4 0 0 = 2; best 0 4 = 2; best 0 3 = 0",
            // Refused from the beginning, and a run all the same.
            Script.NEW, Make.HOME, "rule 0 0 0 1 0 = 0; submit 3 0 0 = 0; judged 0 = 1; best 0 3 = -1");
        Script.sentence("Promise 12", "`runner`: 0 to 7", Make.HOME, "submit -1 0 0 = I; submit 8 0 0 = I; submit MIN 0 0 = I",
            "submit MAX 0 0 = I; submit 0 0 0 = 0; submit 7 0 0 = 1; best 0 7 = 1");
        Script.sentence("Promise 12", "`replay`: a replay", Make.HOME, "submit 0 -1 0 = I; submit 0 1 0 = I",
            "submit 0 20 0 = I; submit 0 MIN 0 = I; submit 0 MAX 0 = I; judged 0 = I; submit 0 0 0 = 0");
        Script.sentence("Promise 12", "`category`: a category",
            Make.HOME, "submit 0 0 -1 = I; submit 0 0 1 = I; submit 0 0 6 = I; submit 0 0 MIN = I; submit 0 0 MAX = I",
            "judged 0 = I; category 0; submit 0 0 1 = 0; best 1 0 = 0");
        Script.sentence("Promise 12", "Returns number of the run.",
            Make.HOME, "category 0; submit 0 0 0 = 0; submit 0 0 1 = 1; strike 0; strike 1; submit 5 0 0 = 2");
        Script.sentence("Promise 12", "Throws `IndexOutOfBoundsException` if there is no such runner, replay or category",
            "submit 0 0 0 = I; level; submit 0 0 0 = I; category 0; submit 0 0 0 = I; replay 0; submit 0 0 0 = S",
            "input 0 2 100; input 0 2 22; submit 8 0 0 = I; submit 0 1 0 = I; submit 0 0 1 = I; submit 8 1 1 = I",
            "input 0 0 1 = 123; submit 0 0 0 = 0");
        Script.sentence("Promise 12", "Throws `IllegalArgumentException` if the replay is for another level than the category",
            Make.HOME, "level; category 1; replay 1; input 1 2 100; input 1 2 22; submit 0 0 1 = A; submit 0 1 0 = A",
            "judged 0 = I; input 0 0 1 = 123; input 1 0 1 = 123; submit 0 0 0 = 0; submit 0 1 1 = 1; submit 0 0 1 = A");
        String state = "Throws `IllegalStateException` if it does not come home, or there are 40 runs";
        Script.sentence("Promise 12", state,
            "level; category 0; replay 0; submit 0 0 0 = S; input 0 2 100; input 0 2 21; submit 0 0 0 = S; judged 0 = I",
            "input 0 2 1 = 122; submit 0 0 0 = 0",
            Script.NEW, "level; category 0; column 0 9 0 2; replay 0; input 0 2 100; input 0 2 22; result 0 = 342",
            "submit 0 0 0 = S; judged 0 = I; input 0 0 1 = 123",
            Script.NEW, Make.HOME, "replay 0; input 1 2 100; input 1 2 22", Script.forAll(0, 38, "submit 1 0 0 = #"),
            "submit 2 0 0 = 39; submit 3 0 0 = S; submit 3 1 0 = S; best 0 3 = -1; judged 40 = I; input 1 0 1 = 123; strike 0",
            "submit 3 0 0 = S");
    }

    private static String noSuchRun(String name, String answer) {
        String calls = "# 0 = I; level; category 0; # 0 = I; replay 0; input 0 2 100; input 0 2 22; # 0 = I; submit 0 0 0; # 1 = I"
            + "; # -1 = I; # 40 = I; # MIN = I; # MAX = I; # 0 = @; submit 1 0 0; # 2 = I; # 1 = @";
        return calls.replace("#", name).replace("@", answer);
    }

    private static void promise13() {
        Script.sentence("Promise 13", "Returns how a run is judged.",
            THREE_DAYS, "rule 0 1 0 1 0; strike 1; strike 0", judged(2, 3, 1));
        Script.sentence("Promise 13", "`run`: a run", noSuchRun("judged", "0"));
        Script.sentence("Promise 13", "Returns 1 if it is refused, 2 if it is struck, added; 0 if it counts.",
            Make.HOME, "submit 0 0 0; judged 0 = 0; strike 0; judged 0 = 2; rule 0 0 0 1 0; judged 0 = 3; strike 0",
            "judged 0 = 1; rule 0 0 0 0 0; judged 0 = 0");
        Script.sentence("Promise 13", "Throws `IndexOutOfBoundsException` if there is no such run", noSuchRun("judged", "0"));
    }

    private static void promise14() {
        Script.sentence("Promise 14", "Strikes a run, or restores it.", THREE_DAYS, "strike 1", judged(0, 2, 0), "strike 2",
            judged(0, 2, 2), "strike 1", judged(0, 0, 2), "strike 1", judged(0, 2, 2));
        Script.sentence("Promise 14", "`run`: a run", noSuchRun("strike", "true"));
        Script.sentence("Promise 14", "Returns true if it is struck then.",
            Make.HOME, "submit 0 0 0; strike 0 = true; strike 0 = false; strike 0 = true; rule 0 0 0 1 0; strike 0 = false",
            "judged 0 = 1; strike 0 = true; judged 0 = 3");
        Script.sentence("Promise 14", "Throws `IndexOutOfBoundsException` if there is no such run", noSuchRun("strike", "true"));
    }
}
