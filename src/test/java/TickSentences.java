/** The sentences about buttons and the steps of a tick: Terms, Levels and ticks. */
final class TickSentences {
    /** A gap at the column 1, behind a first column of the height 5 or 6. */
    private static final String GAP_BEHIND_5 = "level; column 0 0 5 0; column 0 1 -1 #; replay 0";
    private static final String GAP_BEHIND_6 = "level; column 0 0 6 0; column 0 1 -1 #; replay 0";
    private static final String WALL = "level; column 0 1 1 0; replay 0";

    private TickSentences() {
    }

    static void checkAll() {
        buttons();
        theBeginning();
        theOrder();
        wayAndDash();
        jump();
        come();
        clip();
        fall();
        stand();
        coins();
        ends();
    }

    private static void terms(String sentence, String... lines) {
        Script.sentence("Terms", sentence, lines);
    }

    private static void buttons() {
        String sentence = "Buttons are told by a number from 0 to 15: LEFT 1, RIGHT 2, JUMP 4 and DASH 8, added.";
        // Where the hero is, and what it did, behind one tick of each number.
        int[] where = {8, 4, 12, 8, 12008, 12004, 12012, 12008, 8, 0, 28, 8, 12008, 12000, 12028, 12008};
        int[] used = {0, 1, 0, 0, 10, 11, 10, 10, 0, 3, 2, 0, 10, 13, 12, 10};
        for (int buttons = 0; buttons <= 15; buttons++) {
            terms(sentence, "level; replay 0; input 0 " + buttons + " 1",
                "where 0 1 = " + where[buttons] + "; used 0 = " + used[buttons]);
        }
        terms(sentence, "level; replay 0; input 0 -1 1 = A; input 0 16 1 = A; input 0 15 1 = 1");
        terms("A button is pressed anew in a tick if it is told for that, and was not for the tick before.",
            // Held behind landing, in a piece of its own, and let go for one tick.
            "level; replay 0; input 0 4 13; where 0 12 = 12008; where 0 13 = 8; input 0 4 2; where 0 15 = 8; used 0 = 10",
            "input 0 0 1; input 0 4 1; where 0 17 = 12008; used 0 = 20",
            Script.NEW, "level; replay 0; input 0 10 2; where 0 1 = 28; where 0 2 = 32; input 0 10 1; where 0 3 = 36",
            "input 0 2 1; input 0 10 1; where 0 5 = 60",
            // Pressed in the air and held to the ground: anew only once.
            Script.NEW, "level; replay 0; input 0 4 1; input 0 0 1; input 0 4 11; where 0 13 = 8; input 0 4 1; where 0 14 = 8",
            "used 0 = 10",
            // Each button for itself: another one that is held does not matter.
            Script.NEW, "level; replay 0; input 0 10 1; input 0 14 1; where 0 2 = 12032; used 0 = 12",
            Script.NEW, "level; replay 0; input 0 6 1; input 0 14 1; where 0 2 = 22032; used 0 = 12");
    }

    private static void theBeginning() {
        String sentence = "At first the hero is at the place 8, stands on the floor of the column 0"
            + " (at the height 0, if that is a gap), has a speed of 0, and can dash.";
        terms(sentence, "level; replay 0; where 0 0 = 8; input 0 0 1; where 0 1 = 8",
            Script.NEW, "level; column 0 0 1 0; replay 0; where 0 0 = 16008; input 0 0 1; where 0 1 = 16008",
            Script.NEW, "level; column 0 0 6 0; replay 0; where 0 0 = 96008; input 0 0 1; where 0 1 = 96008",
            // In a gap: a fall from 0 with the speed 0, a leap in the first tick, a dash out of it.
            Script.NEW, "level; column 0 0 -1 0; replay 0; where 0 0 = 8; input 0 0 1; where 0 1 = -1992; input 0 4 1",
            "where 0 2 = -5992; used 0 = 0",
            Script.NEW, "level; column 0 0 -1 0; replay 0; input 0 4 1; where 0 1 = 12008; used 0 = 10",
            Script.NEW, "level; column 0 0 -1 0; replay 0; input 0 10 1; where 0 1 = 28; used 0 = 2; input 0 0 1",
            "where 0 2 = 28",
            Script.NEW, "level; column 0 0 6 0; replay 0; input 0 4 1; where 0 1 = 108008; used 0 = 10",
            Script.NEW, "level; replay 0; input 0 10 1; where 0 1 = 28; used 0 = 2");
    }

    private static void theOrder() {
        terms("In each tick, in this order:",
            // 1 ahead of 6: no dash in the tick of landing; 2 ahead of 5: no leap in it either.
            "level; replay 0; input 0 4 1; input 0 10 1; input 0 2 10; input 0 14 1; where 0 13 = 72; used 0 = 12",
            // 2 behind 1: a dash in the tick of a leap; 3 ahead of 5: the leap does not lift over a wall in its tick.
            Script.NEW, WALL, "input 0 2 1; input 0 6 1; where 0 2 = 12012",
            // 3 ahead of 4: it falls in the tick in which it comes to an edge.
            Script.NEW, "level; column 0 0 1 0; replay 0; input 0 2 2; where 0 2 = 14016",
            // 5 ahead of 7: the height behind the fall decides on a coin; 5 ahead of 8: a spike in the tick of landing.
            Script.NEW, GAP_BEHIND_5.replace("#", "1"), "input 0 2 2; input 0 0 5; used 0 = 0; input 0 0 1; where 0 8 = 24016",
            "used 0 = 10000",
            Script.NEW, "level; column 0 0 0 2; replay 0; input 0 4 12; result 0 = 120; input 0 0 1; result 0 = 132",
            // 7 ahead of 8: a coin in the tick of dying, and in that of coming home.
            Script.NEW, "level; column 0 0 -1 0; column 0 1 -1 1; replay 0; input 0 2 1; input 0 0 4; used 0 = 0; input 0 2 1",
            "result 0 = 62; used 0 = 10000",
            Script.NEW, "level; column 0 31 0 1; replay 0; input 0 2 100; input 0 2 22; result 0 = 1221; used 0 = 10000");
    }

    private static void wayAndDash() {
        terms("With RIGHT and not LEFT the way is 4, with LEFT and not RIGHT -4, otherwise 0.",
            "level; replay 0; input 0 2 1; where 0 1 = 12; input 0 1 1; where 0 2 = 8; input 0 3 1; where 0 3 = 8",
            "input 0 0 1; where 0 4 = 8; used 0 = 1",
            Script.NEW, "level; replay 0; input 0 3 5; where 0 5 = 8; used 0 = 0",
            Script.NEW, "level; replay 0; input 0 2 50; where 0 50 = 208; input 0 1 50; where 0 100 = 8");
        terms("If DASH is pressed anew, the way is not 0 and the hero can dash, the way is 5 times as long,"
                + " and the hero cannot dash any more.",
            "level; replay 0; input 0 10 1; where 0 1 = 28; used 0 = 2; input 0 0 1; input 0 9 1; where 0 3 = 8; used 0 = 3",
            // Without a way it is spared, in the air too: heights 12, 22, 30, 36.
            Script.NEW, "level; replay 0; input 0 4 1; input 0 8 1; input 0 0 1; used 0 = 10; input 0 10 1; where 0 4 = 36028",
            "used 0 = 12",
            Script.NEW, "level; replay 0; input 0 4 1; input 0 11 1; input 0 0 1; used 0 = 10; input 0 10 1",
            "where 0 4 = 36028; used 0 = 12",
            // Told without a way and held: not anew when the way comes.
            Script.NEW, "level; replay 0; input 0 8 1; input 0 10 1; where 0 2 = 12; used 0 = 0",
            Script.NEW, "level; replay 0; input 0 11 1; input 0 10 1; where 0 2 = 12; used 0 = 0",
            // Once in the air, also after a leap and a dash in one tick.
            Script.NEW, "level; replay 0; input 0 4 1; input 0 10 1; input 0 2 1; input 0 10 1; where 0 4 = 36036; used 0 = 12",
            Script.NEW, "level; replay 0; input 0 14 1; where 0 1 = 12028; input 0 2 1; input 0 10 1; where 0 3 = 30036",
            "used 0 = 12",
            // Blocked, and at the left end: dashed all the same, and no more in the air.
            Script.NEW, WALL, "input 0 10 1; where 0 1 = 8; used 0 = 2",
            Script.NEW, "level; replay 0; input 0 13 1; where 0 1 = 12000; input 0 0 1; input 0 10 1; where 0 3 = 30004",
            "used 0 = 13");
        terms("If it stands, it can dash again.",
            "level; replay 0; input 0 10 1; input 0 2 1; input 0 10 1; where 0 3 = 52",
            // Landed in the tick 13: no dash in that tick, one in the next if it is pressed anew there.
            Script.NEW, "level; replay 0; input 0 4 1; input 0 10 1; input 0 2 10; input 0 10 1; where 0 13 = 72; input 0 2 1",
            "where 0 14 = 76; input 0 10 1; where 0 15 = 96",
            Script.NEW, "level; replay 0; input 0 4 1; input 0 10 1; input 0 2 11; where 0 13 = 72; input 0 10 1",
            "where 0 14 = 92",
            Script.NEW, "level; replay 0; input 0 4 1; input 0 10 1; input 0 2 9; where 0 11 = 22064; input 0 10 1",
            "where 0 12 = 12068",
            // Never in a gap, also not at the height 0.
            Script.NEW, "level", Script.forAll(0, 9, "column 0 # -1 0"), "replay 0; input 0 4 1; input 0 10 1; input 0 2 11",
            "where 0 13 = 72; input 0 10 1; where 0 14 = -13924");
    }

    private static void jump() {
        terms("If JUMP is pressed anew and the hero stands, the speed is 14, and it does not stand any more.",
            "level; replay 0; input 0 4 1; where 0 1 = 12008; used 0 = 10; input 0 0 1; where 0 2 = 22008; input 0 4 1",
            "where 0 3 = 30008; used 0 = 10",
            // Lands in the tick 13: a press in that tick is too early, the next one leaps.
            Script.NEW, "level; replay 0; input 0 4 1; input 0 0 11; input 0 4 1; where 0 13 = 8; used 0 = 10; input 0 0 1",
            "input 0 4 1; where 0 15 = 12008; used 0 = 20",
            Script.NEW, "level; replay 0; input 0 4 1; input 0 0 12; input 0 4 1; where 0 14 = 12008; used 0 = 20",
            // Off an edge: the last tick on it, and the first behind it.
            Script.NEW, "level; column 0 0 1 0; replay 0; input 0 2 1; input 0 6 1; where 0 2 = 28016; used 0 = 10",
            Script.NEW, "level; column 0 0 1 0; replay 0; input 0 2 2; input 0 6 1; where 0 3 = 10020; used 0 = 0");
    }

    private static void come() {
        terms("The hero comes to the place, by the way, at least 0 and at most 511; but if the column there is no gap"
                + " and its floor is above the height of the hero, it stays at its place.",
            "level; replay 0; input 0 1 1; where 0 1 = 4; input 0 1 1; where 0 2 = 0; input 0 1 1; where 0 3 = 0; input 0 2 1",
            "where 0 4 = 4",
            Script.NEW, "level; replay 0; input 0 9 1; where 0 1 = 0",
            Script.NEW, "level; replay 0; input 0 2 3; where 0 3 = 20; input 0 9 1; where 0 4 = 0",
            Script.NEW, "level; replay 0; input 0 2 4; where 0 4 = 24; input 0 9 1; where 0 5 = 4",
            Script.NEW, "level; replay 0; input 0 2 100; input 0 2 20; where 0 120 = 488; input 0 10 1; where 0 121 = 508",
            "result 0 = 1211",
            Script.NEW, "level; replay 0; input 0 2 100; input 0 2 21; where 0 121 = 492; input 0 10 1; where 0 122 = 511",
            "result 0 = 1221",
            // A floor above the hero, one at its height, and one below.
            Script.NEW, WALL, "input 0 2 3; where 0 1 = 12; where 0 2 = 12; where 0 3 = 12",
            Script.NEW, "level; column 0 0 1 0; column 0 1 1 0; replay 0; input 0 2 2; where 0 2 = 16016",
            Script.NEW, "level; column 0 0 1 0; column 0 1 2 0; replay 0; input 0 2 2; where 0 2 = 16012",
            Script.NEW, "level; column 0 0 6 0; column 0 1 5 0; replay 0; input 0 2 2; where 0 2 = 94016",
            // At the height 12 the floor 16 is above, at 22 it is not.
            Script.NEW, WALL, "input 0 2 1; input 0 4 1; input 0 2 1; where 0 3 = 22012; input 0 2 1; where 0 4 = 30016",
            // Fallen by 2 below the floor of the next column but one: the dash over a gap stops short of it.
            Script.NEW, "level; column 0 0 1 0; column 0 1 -1 0; column 0 2 1 0; replay 0; input 0 2 2; where 0 2 = 14016",
            "input 0 10 1; where 0 3 = 10016; used 0 = 2",
            // A gap never blocks, not even from below; the floor 0 does.
            Script.NEW, "level; column 0 0 -1 0; column 0 1 -1 0; replay 0; input 0 2 2; where 0 2 = -5984",
            Script.NEW, "level; column 0 0 -1 0; replay 0; input 0 2 2; where 0 1 = -1988; where 0 2 = -5988",
            // Only the column of the new place blocks.
            Script.NEW, "level; column 0 2 1 0; replay 0; input 0 2 1; input 0 10 1; where 0 2 = 12; used 0 = 2",
            Script.NEW, "level; column 0 0 1 0; replay 0; input 0 2 6; where 0 6 = 32; input 0 1 9; where 0 15 = 16",
            "used 0 = 1");
    }

    private static void clip() {
        String sentence = "If it came there, and a column between both, neither that which it left nor that to which it came,"
            + " is no gap and has a floor above its height, it has clipped.";
        terms(sentence, WALL, "input 0 2 1; input 0 10 1; where 0 2 = 32; used 0 = 6",
            // Below its height before the fall of that tick: 12 is below the floor 16, 22 is above it.
            Script.NEW, WALL, "input 0 2 1; input 0 4 1; input 0 10 1; where 0 3 = 22032; used 0 = 16",
            Script.NEW, WALL, "input 0 2 1; input 0 4 2; input 0 10 1; where 0 4 = 30032; used 0 = 12",
            // A floor at its height, a gap, and a gap seen from below are no hindrance.
            Script.NEW, "level; column 0 0 1 0; column 0 1 1 0; replay 0; input 0 2 1; input 0 10 1; where 0 2 = 14032",
            "used 0 = 2",
            Script.NEW, "level; column 0 0 1 0; column 0 1 2 0; column 0 2 1 0; replay 0; input 0 2 1; input 0 10 1",
            "where 0 2 = 16032; used 0 = 6",
            Script.NEW, "level; column 0 1 -1 0; replay 0; input 0 2 1; input 0 10 1; where 0 2 = 32; used 0 = 2",
            Script.NEW, "level; column 0 0 -1 0; column 0 1 -1 0; column 0 2 -1 0; replay 0; input 0 2 1; input 0 10 1",
            "where 0 2 = -5968; used 0 = 2",
            // Seen from below 0, a floor at 0 is one above its height.
            Script.NEW, "level; column 0 0 -1 0; column 0 2 -1 0; replay 0; input 0 2 1; input 0 10 1; where 0 2 = -5968",
            "used 0 = 6",
            // It did not come there; it came to the next column.
            Script.NEW, "level; column 0 1 1 0; column 0 2 1 0; replay 0; input 0 2 1; input 0 10 1; where 0 2 = 12",
            "used 0 = 2",
            Script.NEW, WALL, "input 0 10 1; where 0 1 = 8; used 0 = 2",
            Script.NEW, "level; column 0 1 1 0; column 0 0 1 0; replay 0; input 0 10 1; where 0 1 = 16028; used 0 = 2");
        // To the left, behind a leap over the wall: 32 is in the column 2, 12 in the column 0.
        terms(sentence, WALL, "input 0 6 1; input 0 2 12; where 0 13 = 56; input 0 1 6; where 0 19 = 32; used 0 = 11",
            "input 0 9 1; where 0 20 = 12; used 0 = 17",
            Script.NEW, WALL, "input 0 6 1; input 0 2 12; input 0 1 5; where 0 18 = 36; input 0 9 1; where 0 19 = 36",
            "used 0 = 13",
            // Into the last column.
            Script.NEW, "level; column 0 30 1 0; replay 0; input 0 2 100; input 0 2 17; where 0 117 = 476; input 0 10 1",
            "where 0 118 = 496; used 0 = 6; result 0 = 1181");
    }

    private static void fall() {
        terms("If it stands, and its column is a gap or its floor is below its height, it does not stand any more,"
                + " and the speed is 0.",
            "level; column 0 0 1 0; replay 0; input 0 2 2; where 0 2 = 14016; input 0 4 1; where 0 3 = 10016; used 0 = 0",
            Script.NEW, "level; column 0 0 1 0; column 0 1 1 0; replay 0; input 0 2 2; where 0 2 = 16016; input 0 4 1",
            "where 0 3 = 28016; used 0 = 10",
            Script.NEW, "level; column 0 1 -1 0; replay 0; input 0 2 2; where 0 2 = -1984; input 0 4 1; where 0 3 = -5984",
            "used 0 = 0",
            Script.NEW, "level; column 0 0 6 0; column 0 1 5 0; replay 0; input 0 2 2; where 0 2 = 94016; input 0 0 2",
            "where 0 4 = 84016; input 0 0 1; where 0 5 = 80016",
            // Over the column 1 only its own floor counts, not that of the column which it left.
            Script.NEW, "level; column 0 0 1 0; column 0 1 1 0; column 0 2 -1 0; replay 0; input 0 2 5; where 0 5 = 16028",
            "input 0 2 1; where 0 6 = 14032");
        terms("If it does not stand, the speed becomes 2 less, but -14 at least, and the height changes by the speed.",
            GAP_BEHIND_6.replace("#", "0"), "input 0 2 2; where 0 2 = 94016; input 0 0 12; where 0 3 = 90016",
            "where 0 7 = 54016; where 0 8 = 40016; where 0 9 = 26016",
            "where 0 10 = 12016; where 0 11 = -1984; where 0 12 = -15984; where 0 13 = -29984; where 0 14 = -43984",
            "result 0 = 142",
            Script.NEW, "level; replay 0; input 0 4 13; where 0 1 = 12008; where 0 2 = 22008; where 0 6 = 42008",
            "where 0 7 = 42008; where 0 8 = 40008; where 0 12 = 12008");
    }

    private static void stand() {
        terms("If its column is no gap, the speed is 0 or less, and the height is at the floor or below it,"
                + " it stands on the floor, with the speed 0.",
            // At the floor in the tick 13 of a leap, as the leap behind it shows; below it: 14, 10, 4, and 0 for -4.
            "level; replay 0; input 0 4 12; where 0 12 = 12008; input 0 0 1; where 0 13 = 8; input 0 4 1; where 0 14 = 12008",
            "used 0 = 20",
            Script.NEW, "level; column 0 0 1 0; replay 0; input 0 2 2; input 0 0 3; where 0 4 = 4016; where 0 5 = 16",
            "input 0 4 1; where 0 6 = 12016; used 0 = 10",
            // In a gap it stands nowhere, not at 0 and not below.
            Script.NEW, "level; column 0 0 -1 0; replay 0; input 0 4 1; input 0 0 12; where 0 13 = 8; input 0 4 1",
            "where 0 14 = -13992; used 0 = 10",
            // Still rising it does not stand, although it is over a floor that is near.
            Script.NEW, WALL, "input 0 2 1; input 0 4 2; where 0 2 = 12012; where 0 3 = 22012; input 0 2 1; where 0 4 = 30016",
            "input 0 0 1; input 0 4 1; used 0 = 10",
            // The speed is 0 behind landing: a fall from there begins with 2.
            Script.NEW, "level; column 0 0 2 0; column 0 1 1 0; replay 0; input 0 2 6; where 0 5 = 16028; where 0 6 = 14032");
    }

    private static void coins() {
        terms("If its column has a coin that it does not have, and its height is at most 24 above the floor"
                + " (above 0, if it is a gap), it has this coin.",
            "level; column 0 0 0 1; replay 0; used 0 = 0; input 0 0 1; used 0 = 10000; input 0 0 1; used 0 = 10000",
            "input 0 2 2; input 0 1 1; used 0 = 10001",
            // Back to the first of two coins, then of three: it has each of them already.
            Script.NEW, "level; column 0 0 0 1; column 0 1 0 1; column 0 2 0 1; replay 0; input 0 2 2; used 0 = 20000",
            "input 0 1 1; where 0 3 = 12; used 0 = 20001; input 0 2 5; used 0 = 30001; input 0 1 5; where 0 13 = 12",
            "used 0 = 30001",
            // 26, 26 and 24 above the floor 16.
            Script.NEW, "level; column 0 1 1 1; replay 0; input 0 2 1; input 0 4 5; input 0 6 1; where 0 7 = 42016",
            "used 0 = 10",
            "input 0 4 1; where 0 8 = 42016; used 0 = 10; input 0 4 1; where 0 9 = 40016; used 0 = 10010",
            // Over a gap: 38 and 24 above 0; 40, 26 and 12 above 0.
            Script.NEW, GAP_BEHIND_5.replace("#", "1"), "input 0 2 2; input 0 0 5; where 0 7 = 38016; used 0 = 0; input 0 0 1",
            "where 0 8 = 24016; used 0 = 10000",
            Script.NEW, GAP_BEHIND_6.replace("#", "1"), "input 0 2 2; input 0 0 7; where 0 9 = 26016; used 0 = 0; input 0 0 1",
            "where 0 10 = 12016; used 0 = 10000",
            // Below 0 in a gap.
            Script.NEW, "level; column 0 0 -1 0; column 0 1 -1 1; replay 0; input 0 2 1; used 0 = 0; input 0 2 1",
            "where 0 2 = -5984; used 0 = 10000",
            // Over it in a dash, and another item.
            Script.NEW, "level; column 0 1 0 1; replay 0; input 0 2 1; input 0 10 1; where 0 2 = 32; used 0 = 2",
            Script.NEW, "level; column 0 0 0 2; replay 0; input 0 0 1; used 0 = 0",
            // As many as there are columns.
            Script.NEW, "level", Script.forAll(0, 31, "column 0 # 0 1"), "replay 0; input 0 2 100; input 0 2 22",
            "used 0 = 320000");
    }

    private static void ends() {
        String sentence = "If its height is below -32, or it stands on a column with a spike, it has died;"
            + " otherwise, if its column is 31, it is home.";
        // From 80 the fall comes to -32 and -46, from 64 to -20 and -34.
        terms(sentence, GAP_BEHIND_5.replace("#", "0"), "input 0 2 2; input 0 0 10; where 0 12 = -31984; result 0 = 120",
            "input 0 0 1; where 0 13 = -45984; result 0 = 132",
            Script.NEW, "level; column 0 0 4 0; column 0 1 -1 0; replay 0; input 0 2 2; input 0 0 8; where 0 10 = -19984",
            "result 0 = 100; input 0 0 1; where 0 11 = -33984; result 0 = 112",
            Script.NEW, "level; column 0 1 0 2; replay 0; input 0 2 1; result 0 = 10; input 0 2 1; result 0 = 22",
            Script.NEW, "level; column 0 0 0 2; replay 0; result 0 = 0; input 0 4 12; result 0 = 120; input 0 4 1",
            "result 0 = 132",
            Script.NEW, "level; column 0 1 0 2; replay 0; input 0 2 1; input 0 10 1; where 0 2 = 32; result 0 = 20",
            Script.NEW, "level; column 0 0 -1 2; replay 0; input 0 0 5; result 0 = 50; input 0 0 1; result 0 = 62",
            Script.NEW, "level; replay 0; input 0 2 100; input 0 2 21; result 0 = 1210; input 0 2 1; result 0 = 1221");
        // On the last column: on a spike, above it, in a gap at -32, -46 and -34.
        String over5 = "level; " + Script.forAll(0, 28, "column 0 # 5 0") + "; column 0 29 -1 0; column 0 30 -1 0; column 0 31 -1 0"
            + "; replay 0; input 0 2 100; input 0 2 14";
        terms(sentence, "level; column 0 31 0 2; replay 0; input 0 2 100; input 0 2 22; result 0 = 1222",
            Script.NEW, "level; column 0 31 0 2; replay 0; input 0 2 100; input 0 2 21; input 0 6 1; result 0 = 1221",
            Script.NEW, over5, "input 0 0 2; input 0 2 8; where 0 124 = -31504; result 0 = 1241",
            Script.NEW, over5, "input 0 0 3; input 0 2 8; where 0 125 = -45504; result 0 = 1252",
            Script.NEW, over5.replace("5 0", "4 0"), "input 0 0 1; input 0 2 8; where 0 123 = -33504; result 0 = 1232",
            Script.NEW, over5.replace("5 0", "4 0"), "input 0 2 8; where 0 122 = -19504; result 0 = 1221");
        terms("In both cases the replay is over with this tick.",
            "level; column 0 1 0 1; replay 0; input 0 2 100; input 0 2 22; input 0 1 50 = 172; input 0 13 50 = 222",
            "result 0 = 1221; used 0 = 10000; where 0 122 = 496; where 0 123 = I",
            Script.NEW, "level; column 0 0 0 2; column 0 1 0 1; replay 0; input 0 0 1; input 0 10 50 = 51; input 0 4 9 = 60",
            "result 0 = 12; used 0 = 0; where 0 1 = 8; where 0 2 = I",
            Script.NEW, "level; column 0 0 -1 0; replay 0; input 0 0 20; result 0 = 62; where 0 6 = -41992; where 0 7 = I");
    }
}
