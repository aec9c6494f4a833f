/** The sentences about replays: Terms, Replays, and promises 4 to 8. */
final class ReplaySentences {
    private static final String TWO_REPLAYS = "level; replay 0; replay 0";

    private ReplaySentences() {
    }

    static void checkAll() {
        terms();
        promise4();
        promise5();
        promise6();
        promise7();
        promise8();
    }

    private static void terms() {
        Script.sentence("Terms", "Replays are numbered from 0, at most 20.",
            "level; result 0 = I", Script.forAll(0, 18, "replay 0 = #"), "result 18 = 0; result 19 = I; replay 0 = 19",
            "result 19 = 0; result 20 = I",
            "replay 0 = S; replay 0 = S; result 20 = I; input 20 0 1 = I; input 19 2 5 = 5; input 0 2 4 = 4; replay 0 = S",
            "result 19 = 50; result 0 = 40; where 19 5 = 28");
        String replays = "A replay is for a level, which can not be changed from then on; it has at most 20 pieces,"
            + " each of some buttons for some ticks, one behind the other, and at most 500 ticks together.";
        Script.sentence("Terms", replays,
            "level; level; column 0 0 1 0; column 1 0 2 0; replay 1; column 1 0 3 0 = S; column 1 31 0 0 = S",
            "where 0 0 = 32008; column 0 0 4 0; replay 0; where 1 0 = 64008; column 0 0 5 0 = S",
            // One behind the other, over the edge of each piece: 12, 16; 12, 8, 4; 4; 24.
            Script.NEW, "level; replay 0; input 0 2 2 = 2; input 0 1 3 = 5; input 0 0 1 = 6; input 0 10 1 = 7; where 0 2 = 16",
            "where 0 3 = 12; where 0 5 = 4; where 0 6 = 4; where 0 7 = 24",
            Script.NEW, "level; replay 0", Script.forAll(1, 19, "input 0 0 1 = #"), "input 0 2 1 = 20; input 0 2 1 = S",
            "input 0 0 1 = S; result 0 = 200; where 0 20 = 12",
            Script.NEW, "level; replay 0; input 0 0 100; input 0 0 100; input 0 0 100; input 0 0 100; input 0 0 99 = 499",
            "input 0 2 2 = S; input 0 2 1 = 500; input 0 2 1 = S; result 0 = 5000; where 0 500 = 12",
            // 20 pieces are taken with the 500th tick, too.
            Script.NEW, "level; replay 0", Script.times(20, "input 0 0 25"), "result 0 = 5000; input 0 0 1 = S");
        Script.sentence("Terms", "A replay that was submitted gets no more pieces.",
            Make.HOME, "input 0 0 1 = 123; submit 0 0 0 = 0; input 0 0 1 = S; input 0 2 1 = S; result 0 = 1221; replay 0 = 1",
            "input 1 0 1 = 1",
            // Neither struck nor refused, and no matter in which category; but a submit that is refused leaves it open.
            Script.NEW, Make.HOME, "submit 0 0 0; strike 0 = true; input 0 0 1 = S; rule 0 0 0 1 0 = 1; input 0 0 1 = S",
            "strike 0 = false; input 0 0 1 = S",
            Script.NEW, "level; category 0; replay 0; input 0 2 100; submit 0 0 0 = S; input 0 2 21 = 121; submit 0 0 0 = S",
            "input 0 2 1 = 122; submit 8 0 0 = I; input 0 0 1 = 123; submit 0 0 0 = 0; input 0 0 1 = S");
    }

    private static void promise4() {
        Script.sentence("Promise 4", "Adds a replay without pieces.",
            "level; replay 0; result 0 = 0; used 0 = 0; where 0 0 = 8; where 0 1 = I; input 0 0 1 = 1; replay 0; result 1 = 0",
            "used 1 = 0; where 1 0 = 8; input 1 0 7 = 7");
        Script.sentence("Promise 4", "`level`: a level",
            "level; level; column 1 0 1 0; replay 1; where 0 0 = 16008; replay 0; where 1 0 = 8; replay -1 = I; replay 2 = I",
            "replay MIN = I; replay MAX = I");
        Script.sentence("Promise 4", "Returns its number.",
            "level; level", Script.forAll(0, 9, "replay 0 = #"), Script.forAll(10, 19, "replay 1 = #"));
        Script.sentence("Promise 4", "Throws `IndexOutOfBoundsException` if there is no such level",
            "replay 0 = I; level; replay -1 = I; replay 1 = I; replay 0 = 0; level; replay 1 = 1; replay 2 = I; level",
            "replay 2 = 2; replay 3 = I; level = S; replay 3 = I");
        Script.sentence("Promise 4", "Throws `IllegalStateException` if there are 20 replays",
            "level; level", Script.forAll(0, 18, "replay 0 = #"), "replay 1 = 19; input 19 4 3 = 3; replay 0 = S",
            "replay 1 = S; result 20 = I; result 19 = 30; used 19 = 10; input 19 0 1 = 4");
    }

    private static void promise5() {
        Script.sentence("Promise 5", "Adds a piece to a replay.",
            TWO_REPLAYS, "input 0 2 3 = 3; where 0 3 = 20; result 1 = 0; input 1 1 1 = 1; where 1 1 = 4; result 0 = 30",
            "input 0 4 2 = 5; where 0 5 = 22020; where 1 1 = 4");
        Script.sentence("Promise 5", "`replay`: a replay",
            TWO_REPLAYS, "input -1 2 1 = I; input 2 2 1 = I; input MIN 2 1 = I; input MAX 2 1 = I; input 0 2 1 = 1",
            "input 1 2 1 = 1; result 0 = 10; result 1 = 10");
        Script.sentence("Promise 5", "`buttons`: 0 to 15",
            TWO_REPLAYS, "input 0 -1 1 = A; input 0 16 1 = A; input 0 MIN 1 = A; input 0 MAX 1 = A; result 0 = 0",
            "input 0 0 1 = 1; where 0 1 = 8; input 0 15 1 = 2; where 0 2 = 12008");
        Script.sentence("Promise 5", "`ticks`: 1 to 100",
            TWO_REPLAYS, "input 0 0 0 = A; input 0 0 -1 = A; input 0 0 101 = A; input 0 0 MIN = A; input 0 0 MAX = A",
            "result 0 = 0; input 0 0 1 = 1; input 0 0 100 = 101; result 0 = 1010");
        Script.sentence("Promise 5", "Returns how many ticks it has then.",
            TWO_REPLAYS, "input 0 0 1 = 1; input 0 0 1 = 2; input 0 0 100 = 102; input 1 0 5 = 5; input 0 0 98 = 200",
            // Also those that are behind its end, home or died.
            Script.NEW, Make.HOME, "input 0 2 50 = 172; result 0 = 1221; input 0 0 100 = 272; result 0 = 1221",
            Script.NEW, "level; column 0 0 0 2; replay 0; input 0 0 40 = 40; input 0 0 40 = 80; result 0 = 12");
        Script.sentence("Promise 5", "Throws `IndexOutOfBoundsException` if there is no such replay",
            "input 0 0 1 = I; level; input 0 0 1 = I; replay 0; input 0 0 1 = 1; input 1 0 1 = I; input -1 0 1 = I; replay 0",
            "input 1 0 1 = 1; input 2 0 1 = I");
        Script.sentence("Promise 5", "Throws `IllegalArgumentException` if buttons or ticks is out of range",
            TWO_REPLAYS, "input 0 2 2; input 0 -1 1 = A; input 0 16 1 = A; input 0 0 0 = A; input 0 0 101 = A",
            "input 0 16 101 = A; input 0 -1 0 = A; result 0 = 20; input 0 2 1 = 3",
            // None of them is one of the 20 pieces or of the 500 ticks.
            Script.NEW, TWO_REPLAYS, "input 0 -1 1 = A; input 0 16 1 = A; input 0 0 0 = A; input 0 0 101 = A",
            Script.forAll(1, 20, "input 0 0 1 = #"), "input 0 0 1 = S",
            Script.NEW, TWO_REPLAYS, "input 0 -1 100 = A; input 0 16 100 = A; input 0 0 0 = A; input 0 0 101 = A",
            Script.times(4, "input 0 0 100"), "input 0 0 100 = 500; input 0 0 1 = S");
        String state = "Throws `IllegalStateException` if it was submitted, has 20 pieces, or would have more than 500 ticks";
        Script.sentence("Promise 5", state,
            Make.HOME, "submit 0 0 0; input 0 0 1 = S; input 0 15 100 = S; result 0 = 1221; used 0 = 0",
            Script.NEW, TWO_REPLAYS, Script.forAll(1, 19, "input 0 0 1 = #"), "input 0 0 1 = 20; input 0 0 1 = S",
            "input 0 2 100 = S; result 0 = 200; input 1 0 1 = 1",
            Script.NEW, TWO_REPLAYS, Script.times(4, "input 0 0 100"), "input 0 0 99 = 499; input 0 0 2 = S",
            "input 0 0 100 = S; input 0 0 1 = 500; input 0 0 1 = S; result 0 = 5000; input 1 0 100 = 100",
            Script.NEW, TWO_REPLAYS, Script.times(4, "input 0 0 100"), "input 0 0 100 = 500; input 0 0 1 = S",
            "input 0 0 100 = S; result 0 = 5000",
            Script.NEW, TWO_REPLAYS, Script.times(4, "input 0 0 100"), "input 0 0 1 = 401; input 0 0 100 = S",
            "input 0 0 99 = 500",
            // Ticks behind the end count, too.
            Script.NEW, Make.HOME, "input 0 0 100 = 222; input 0 0 100 = 322; input 0 0 100 = 422; input 0 0 79 = S",
            "input 0 0 78 = 500; input 0 0 1 = S; result 0 = 1221");
    }

    private static String noSuchReplay(String name) {
        String calls = "# 0 = I; level; # 0 = I; replay 0; # 0 = 0; # 1 = I; # -1 = I; # MIN = I; # MAX = I; replay 0; # 1 = 0; # 2 = I"
            + "; # 20 = I";
        return calls.replace("#", name);
    }

    private static void promise6() {
        Script.sentence("Promise 6", "Returns how a replay ends.",
            Make.HOME, "replay 0; input 1 0 9; result 0 = 1221; result 1 = 90");
        Script.sentence("Promise 6", "`replay`: a replay",
            noSuchReplay("result"));
        Script.sentence("Promise 6",
            "Returns 10 * the ticks up to its end + 0 if its pieces are over, 1 if it is home, 2 if it has died.",
            "level; replay 0; result 0 = 0; input 0 2 1; result 0 = 10; input 0 2 100; input 0 2 20; result 0 = 1210",
            "input 0 2 1; result 0 = 1221; input 0 2 100; result 0 = 1221",
            Script.NEW, "level; column 0 0 0 2; replay 0; result 0 = 0; input 0 0 100; result 0 = 12",
            Script.NEW, "level; column 0 31 0 2; replay 0; input 0 2 100; input 0 2 22; result 0 = 1222",
            Script.NEW, "level; replay 0; input 0 0 100; input 0 0 100; input 0 0 100; input 0 0 100; input 0 0 100",
            "result 0 = 5000",
            // Home with the 500th tick: 378 ticks of waiting, 122 of walking.
            Script.NEW, "level; replay 0; input 0 0 100; input 0 0 100; input 0 0 100; input 0 0 78; input 0 2 100",
            "input 0 2 22 = 500; result 0 = 5001");
        Script.sentence("Promise 6", "Throws `IndexOutOfBoundsException` if there is no such replay",
            noSuchReplay("result"));
    }

    private static void promise7() {
        Script.sentence("Promise 7", "Returns what a replay did up to its end.",
            "level; replay 0; input 0 2 100; input 0 2 22; input 0 4 20; input 0 9 20; result 0 = 1221; used 0 = 0",
            Script.NEW, "level; column 0 2 0 2; column 0 3 0 1; replay 0; input 0 2 6; used 0 = 0; input 0 0 1; input 0 14 5",
            "input 0 1 9; used 0 = 0; result 0 = 62");
        Script.sentence("Promise 7", "`replay`: a replay",
            noSuchReplay("used"));
        Script.sentence("Promise 7", "Returns 10000 * coins + 10 * jumps + what it did of that which can be forbidden, as a set.",
            "level; column 0 0 0 1; replay 0; used 0 = 0; input 0 0 1; used 0 = 10000; input 0 1 1; used 0 = 10001",
            "input 0 0 1; input 0 10 1; used 0 = 10003; input 0 0 1; input 0 4 1; used 0 = 10013",
            Script.NEW, "level; column 0 1 1 0; replay 0; input 0 2 1; input 0 10 1; used 0 = 6; input 0 1 1; used 0 = 7",
            Script.NEW, "level", Script.forAll(0, 31, "column 0 # 0 1"), "replay 0; input 0 2 100; input 0 2 22",
            "used 0 = 320000",
            // As many leaps as 20 pieces take at one height.
            Script.NEW, "level; replay 0", Script.times(10, "input 0 4 1; input 0 0 12"), "used 0 = 100; result 0 = 1300",
            "where 0 130 = 8");
        Script.sentence("Promise 7", "Throws `IndexOutOfBoundsException` if there is no such replay",
            noSuchReplay("used"));
    }

    private static void promise8() {
        Script.sentence("Promise 8", "Returns where the hero of a replay is behind a tick.",
            "level; replay 0; input 0 2 3; where 0 0 = 8; where 0 1 = 12; where 0 2 = 16; where 0 3 = 20; where 0 1 = 12",
            "replay 0; where 1 0 = 8");
        Script.sentence("Promise 8", "`replay`: a replay",
            "where 0 0 = I; level; where 0 0 = I; replay 0; where 0 0 = 8; where -1 0 = I; where 1 0 = I; where MIN 0 = I",
            "where MAX 0 = I; replay 0; where 1 0 = 8; where 2 0 = I");
        Script.sentence("Promise 8", "`tick`: 0 for the beginning, up to the ticks that result() tells",
            "level; replay 0; where 0 -1 = I; where 0 0 = 8; where 0 1 = I; input 0 2 2; where 0 0 = 8; where 0 2 = 16",
            "where 0 3 = I; where 0 -1 = I; where 0 MIN = I; where 0 MAX = I",
            // Of the pieces, only the ticks up to the end.
            Script.NEW, Make.HOME, "input 0 2 50; result 0 = 1221; where 0 122 = 496; where 0 123 = I; where 0 172 = I",
            Script.NEW, "level; column 0 0 0 2; replay 0; input 0 2 50; result 0 = 12; where 0 1 = 12; where 0 2 = I",
            Script.NEW, "level; replay 0", Script.times(5, "input 0 0 100"), "where 0 500 = 8; where 0 501 = I");
        Script.sentence("Promise 8", "Returns 1000 * its height + its place.",
            "level; replay 0; input 0 9 1; where 0 1 = 0; input 0 4 1; where 0 2 = 12000",
            Script.NEW, "level; column 0 0 -1 0; replay 0; input 0 1 6; where 0 1 = -1996; where 0 2 = -6000",
            "where 0 6 = -42000",
            Script.NEW, "level; replay 0; input 0 2 100; input 0 2 21; input 0 14 1; where 0 122 = 12511",
            // The greatest height: a leap from 96.
            Script.NEW, "level; column 0 0 6 0; replay 0; input 0 4 6; where 0 6 = 138008");
        Script.sentence("Promise 8", "Throws `IndexOutOfBoundsException` if there is no such replay or tick",
            "where 0 0 = I; level; replay 0; where 1 0 = I; where 0 1 = I; where 1 1 = I; where 0 0 = 8; input 0 0 1",
            "where 0 1 = 8; where 0 2 = I; where 1 0 = I");
    }
}
