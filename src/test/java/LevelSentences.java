/** The sentences about objects and levels: What it is, Terms, promises 1 to 3. */
final class LevelSentences {
    private LevelSentences() {
    }

    static void checkAll() {
        anObject();
        levels();
        columns();
        newObjects();
        promise2();
        promise3();
    }

    private static void anObject() {
        String sentence = "An object is used for at most 512 calls after it has been made; what later calls answer is free.";
        // 178 calls that fill the archive, 333 gifts, and the plan as the 512th call.
        Script.sentence("What it is", sentence,
            Script.forAll(0, 2, "level = #"),
            "category 0 = 0; category 0 = 1; category 1 = 2; category 1 = 3; category 2 = 4; category 2 = 5",
            Script.forAll(0, 19, "replay 0 = #; input # 2 100 = 100; input # 2 22 = 122"),
            Script.forAll(0, 19, "submit 0 # 0 = #"),
            Script.forAll(0, 19, "submit 1 # 1"),
            Script.forAll(0, 9, "rule 0 # 0 0 500 = 0; rule 1 # 0 0 500 = 0; rule 2 # 0 0 500 = 0"),
            Script.forAll(0, 9, "rule 3 # 7 32 0 = 0; rule 4 # 7 32 0 = 0; rule 5 # 7 32 0 = 0"),
            "strike 0; strike 0; submit 0 0 0 = S; offer 0 0 = 0; offer 1 1 = 1; level = S; replay 0 = S; category 0 = S",
            "rule 0 0 0 0 0 = S",
            Script.forAll(1, 332, "gift 0 1000"),
            "gift 0 1 = 332001", "plan 10000 = 1");
        // One column changed by call after call, and the replay as the 511th.
        Script.sentence("What it is", sentence,
            "level = 0", Script.times(509, "column 0 0 0 1"), "replay 0 = 0", "where 0 0 = 8");
    }

    private static void levels() {
        Script.sentence("Terms", "Levels are numbered from 0, at most 3.",
            "replay 0 = I; column 0 0 0 0 = I; category 0 = I", "level = 0",
            "replay 0 = 0; replay 1 = I; column 1 0 0 0 = I; category 1 = I", "level = 1",
            "column 1 0 0 0; replay 2 = I; column 2 0 0 0 = I; category 2 = I", "level = 2",
            "level = S; level = S", "column 2 0 0 0; replay 2 = 1; category 2 = 0",
            "replay 3 = I; column 3 0 0 0 = I; category 3 = I", "replay -1 = I; column -1 0 0 0 = I; category -1 = I");
    }

    private static void columns() {
        String sentence = "A level has the columns 0 to 31; a column has a height, 0 to 6, or is a gap, told by -1,"
            + " and may have a coin (1) or a spike (2).";
        Script.sentence("Terms", sentence,
            "level; column 0 -1 0 1 = I; column 0 32 0 1 = I", Script.forAll(0, 31, "column 0 # 0 1"),
            "replay 0; input 0 2 100; used 0 = 260000; input 0 2 21; used 0 = 310000; input 0 2 1; used 0 = 320000",
            "result 0 = 1221",
            Script.NEW, "level; column 0 31 0 2; replay 0; input 0 2 100; input 0 2 22; result 0 = 1222",
            Script.NEW, "level; column 0 31 -1 0; replay 0; input 0 2 100; input 0 2 22; where 0 122 = -1504; result 0 = 1221",
            Script.NEW, "level; column 0 0 -2 0 = A; column 0 0 -1 0; replay 0; input 0 0 1; where 0 1 = -1992",
            Script.NEW, "level; column 0 0 7 0 = A; column 0 0 6 0; replay 0; where 0 0 = 96008",
            Script.NEW, "level; column 0 0 0 -1 = A; column 0 0 0 3 = A; column 0 0 0 0; replay 0; input 0 0 1; used 0 = 0",
            "result 0 = 10",
            Script.NEW, "level; column 0 0 0 1; replay 0; input 0 0 1; used 0 = 10000; result 0 = 10",
            Script.NEW, "level; column 0 0 0 2; replay 0; input 0 0 1; used 0 = 0; result 0 = 12");
        Script.sentence("Terms", "At first all heights are 0, without coins and spikes.",
            "level; replay 0; input 0 2 100; input 0 2 22; result 0 = 1221; used 0 = 0; where 0 0 = 8; where 0 122 = 496",
            Script.forAll(1, 121, "where 0 #"), "where 0 1 = 12; where 0 61 = 252; where 0 121 = 492",
            Script.NEW, "level; level; column 0 0 6 1; column 0 1 -1 2; column 0 31 6 2; level",
            "replay 1; input 0 2 100; input 0 2 22; result 0 = 1221; used 0 = 0; where 0 0 = 8",
            "replay 2; input 1 2 100; input 1 2 22; result 1 = 1221; used 1 = 0; where 1 0 = 8");
        String places = "Places are counted in 16ths of a column: the column of the place x is x divided by 16, rounded down;"
            + " the floor of a column is 16 times its height.";
        Script.sentence("Terms", places,
            "level; column 0 1 0 1; replay 0; input 0 2 1; where 0 1 = 12; used 0 = 0; input 0 2 1; where 0 2 = 16",
            "used 0 = 10000",
            Script.NEW, "level; column 0 0 0 1; column 0 2 0 2; replay 0; input 0 2 5; where 0 5 = 28; result 0 = 50",
            "input 0 2 1; where 0 6 = 32; result 0 = 62",
            Script.NEW, "level; column 0 31 0 1; replay 0; input 0 2 100; input 0 2 21; where 0 121 = 492; used 0 = 0",
            "result 0 = 1210",
            "input 0 2 1; where 0 122 = 496; used 0 = 10000; result 0 = 1221",
            // A dash out of the column 0 in the first tick, and back at a walk: 28, 24, 20, 16, 12.
            Script.NEW, "level; column 0 0 0 1; replay 0; input 0 10 1; input 0 1 3; where 0 4 = 16; used 0 = 3; input 0 1 1",
            "where 0 5 = 12; used 0 = 10003");
        for (int height = 0; height <= 6; height++) {
            String told = "level; column 0 0 # 0; replay 0; where 0 0 = ".replace("#", Integer.toString(height));
            Script.sentence("Terms", places, told + (16000 * height + 8));
        }
    }

    private static void newObjects() {
        Script.sentence("Promise 1", "Creates an empty archive, on the day 0.",
            "column 0 0 0 0 = I; replay 0 = I; input 0 0 1 = I; result 0 = I; used 0 = I; where 0 0 = I",
            "category 0 = I; rule 0 0 0 0 0 = I; submit 0 0 0 = I; judged 0 = I; strike 0 = I",
            "best 0 0 = I; bestAnew 0 0 = I; place 0 0 = I; at 0 0 = I; placeWithout 0 = I",
            "estimate 0 0 = I; offer 0 0 = I; gift 0 1 = I; plan 0 = 0; plan 10000 = 0", "pass 1 = 1; level = 0",
            Script.NEW, "pass 100 = 100",
            // The day 0 is the first: a rule from the day 1 is later than a run of a new archive.
            Script.NEW, Make.HOME, "submit 0 0 0 = 0; rule 0 1 0 1 0 = 0; rule 0 0 0 1 0 = 1");
    }

    private static void promise2() {
        Script.sentence("Promise 2", "Adds a level.", "replay 0 = I; level; replay 0 = 0; replay 1 = I; level; replay 1 = 1",
            "replay 2 = I");
        Script.sentence("Promise 2", "Returns its number.", "level = 0; level = 1; level = 2");
        Script.sentence("Promise 2", "Throws `IllegalStateException` if there are 3",
            "level = 0; level = 1; level = 2; level = S; replay 2 = 0; replay 3 = I; level = S; column 3 0 0 0 = I");
    }

    private static void promise3() {
        Script.sentence("Promise 3", "Changes a column.",
            "level; column 0 0 2 1; column 0 0 3 0; replay 0; where 0 0 = 48008; input 0 0 1; used 0 = 0",
            Script.NEW, "level; column 0 1 -1 2; column 0 1 0 1; replay 0; input 0 2 2; where 0 2 = 16; used 0 = 10000",
            "result 0 = 20");
        Script.sentence("Promise 3", "`level`: a level",
            "column 0 0 1 0 = I; level; column 0 0 1 0; column 1 0 1 0 = I; level; column 1 0 2 0; column 2 0 1 0 = I",
            "column -1 0 1 0 = I; column MIN 0 1 0 = I; column MAX 0 1 0 = I; replay 0; replay 1; where 0 0 = 16008",
            "where 1 0 = 32008");
        Script.sentence("Promise 3", "`column`: 0 to 31",
            "level; column 0 -1 6 0 = I; column 0 0 1 0; column 0 31 0 2; column 0 32 6 0 = I; column 0 MIN 6 0 = I",
            "column 0 MAX 6 0 = I",
            "replay 0; where 0 0 = 16008; input 0 2 100; input 0 2 22; result 0 = 1222");
        Script.sentence("Promise 3", "`height`: -1 to 6",
            "level; column 0 0 -2 0 = A; column 0 0 MIN 0 = A; column 0 0 -1 0; replay 0; where 0 0 = 8; input 0 0 1",
            "where 0 1 = -1992",
            Script.NEW, "level; column 0 0 7 0 = A; column 0 0 MAX 0 = A; column 0 0 6 0; replay 0; where 0 0 = 96008",
            "input 0 0 1; where 0 1 = 96008");
        Script.sentence("Promise 3", "`item`: 0 nothing, 1 a coin, 2 a spike",
            "level; column 0 0 0 -1 = A; column 0 0 0 3 = A; column 0 0 0 MIN = A; column 0 0 0 MAX = A; column 0 0 0 0",
            "replay 0; input 0 0 1; used 0 = 0; result 0 = 10",
            Script.NEW, "level; column 0 0 0 1; replay 0; input 0 0 1; used 0 = 10000; result 0 = 10",
            Script.NEW, "level; column 0 0 0 2; replay 0; input 0 0 1; used 0 = 0; result 0 = 12",
            Script.NEW, "level; column 0 0 0 2; column 0 0 0 0; replay 0; input 0 0 1; used 0 = 0; result 0 = 10",
            Script.NEW, "level; column 0 0 0 1; column 0 0 0 0; replay 0; input 0 0 1; used 0 = 0; result 0 = 10");
        Script.sentence("Promise 3", "Throws `IndexOutOfBoundsException` if there is no such level or column",
            "column 0 0 0 0 = I; level; column -1 0 0 0 = I; column 1 0 0 0 = I; column 0 -1 0 0 = I; column 0 32 0 0 = I",
            "column 0 0 0 0; column 0 31 0 0",
            "level; level; column 2 31 0 0; column 2 32 0 0 = I; column 3 31 0 0 = I");
        Script.sentence("Promise 3", "Throws `IllegalArgumentException` if height or item is out of range",
            "level; column 0 0 3 1; column 0 0 -2 0 = A; column 0 0 7 0 = A; column 0 0 0 -1 = A; column 0 0 0 3 = A",
            "column 0 0 -2 3 = A",
            "column 0 1 -2 2 = A; column 0 1 5 3 = A; replay 0; where 0 0 = 48008; input 0 2 2; used 0 = 10000",
            "where 0 2 = 46016");
        Script.sentence("Promise 3", "Throws `IllegalStateException` if there is a replay for the level",
            "level; level; column 0 0 1 0; column 1 0 1 0; replay 0; column 0 0 2 0 = S; column 0 0 1 0 = S",
            "column 0 31 -1 2 = S; where 0 0 = 16008",
            "column 1 0 3 0; replay 1; column 1 0 1 0 = S; where 1 0 = 48008; level; column 2 0 6 2; replay 0; column 2 0 5 0",
            "column 0 0 2 0 = S");
    }
}
