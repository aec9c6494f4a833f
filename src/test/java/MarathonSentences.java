/** The sentences about the marathon: Terms, The marathon, and promises 20 to 23. */
final class MarathonSentences {
    /** The replays 0 to 4 come home behind 130, 140, 150, 160 and 131 ticks; estimates 143, 154, 165, 176 and 145. */
    private static final String FIVE = Make.walks(130, 140, 150, 160, 131);

    private MarathonSentences() {
    }

    static void checkAll() {
        estimates();
        offers();
        plans();
        promise20();
        promise21();
        promise22();
        promise23();
    }

    /** The runners from 0 submit the replays of FIVE, told by number, and offer the category 0, with these gifts. */
    private static String offers(int... replaysAndGifts) {
        StringBuilder told = new StringBuilder(FIVE);
        for (int offer = 0; offer < replaysAndGifts.length / 2; offer++) {
            int gift = replaysAndGifts[2 * offer + 1];
            told.append("; submit ").append(offer).append(' ').append(replaysAndGifts[2 * offer]).append(" 0 = ").append(offer);
            told.append("; offer 0 ").append(offer).append(" = ").append(offer);
            told.append(gift == 0 ? "" : "; gift " + offer + " " + gift + " = " + gift);
        }
        return told.toString();
    }

    private static void estimates() {
        String sentence = "The estimate for a runner and a category: of those runs of the runner in it that count, the latest three"
            + " (by days, of one day the higher numbers), as many as there are: the sum of their ticks times 11,"
            + " divided by 10 times their number, rounded up.";
        // None, one, two, three, and the latest three of four: 143, 148.5, 154, 165.
        Script.sentence("Terms", sentence,
            FIVE, "estimate 0 0 = -1; submit 0 0 0; estimate 0 0 = 143; submit 0 1 0; estimate 0 0 = 149; submit 0 2 0",
            "estimate 0 0 = 154; submit 0 3 0; estimate 0 0 = 165; pass 1; submit 0 0 0; estimate 0 0 = 162",
            // The latest, not the best, and by days as by numbers.
            Script.NEW, FIVE, "submit 0 3 0; pass 1; submit 0 0 0; submit 0 0 0; pass 1; submit 0 1 0; estimate 0 0 = 147",
            "strike 1; estimate 0 0 = 158; strike 2; estimate 0 0 = 165; strike 3; estimate 0 0 = 176; strike 0",
            "estimate 0 0 = -1",
            // Rounded up: 144.1, 143.55, 143.36..; not so if nothing is left.
            Script.NEW, FIVE, "submit 0 4 0; estimate 0 0 = 145; submit 0 0 0; estimate 0 0 = 144; submit 0 0 0",
            "estimate 0 0 = 144; submit 0 0 0; estimate 0 0 = 143",
            Script.NEW, Make.walks(122, 123, 124, 125, 126, 127, 128, 129, 139, 149), "submit 0 0 0; submit 1 1 0",
            "submit 2 2 0; submit 3 3 0; submit 4 4 0; submit 5 5 0; submit 6 6 0; submit 7 7 0; submit 0 8 1; submit 1 9 1",
            "estimate 0 0 = 135; estimate 0 1 = 136; estimate 0 2 = 137; estimate 0 3 = 138; estimate 0 4 = 139",
            "estimate 0 5 = 140; estimate 0 6 = 141; estimate 0 7 = 142; estimate 1 0 = 153; estimate 1 1 = 164",
            // The ticks up to its end, whatever pieces are behind it.
            Script.NEW, FIVE, "input 0 0 100; input 0 0 100 = 330; submit 0 0 0; estimate 0 0 = 143; submit 0 1 0",
            "estimate 0 0 = 149",
            // Of the runner, in the category, and only what counts.
            Script.NEW, FIVE, "submit 0 0 0; submit 1 3 0; submit 0 3 1; estimate 0 0 = 143; estimate 0 1 = 176",
            "estimate 1 0 = 176; estimate 1 1 = -1; strike 0; estimate 0 0 = -1; rule 1 0 0 1 0; estimate 1 0 = -1",
            "rule 1 0 0 0 0; estimate 1 0 = 176");
        // Three of the greatest length: 500 ticks each.
        Script.sentence("Terms", sentence, "level; category 0; replay 0; input 0 0 100; input 0 0 100; input 0 0 100",
            "input 0 0 78; input 0 2 100; input 0 2 22 = 500; submit 0 0 0; submit 0 0 0; submit 0 0 0; submit 0 0 0",
            "estimate 0 0 = 550");
    }

    private static void offers() {
        Script.sentence("Terms", "Offers are numbered from 0, at most 10: a runner offers a category; gifts are given to offers.",
            FIVE, "gift 0 1 = I", Script.forAll(0, 7, "submit # 0 0; submit # 0 1"), Script.forAll(0, 7, "offer 0 # = #"),
            "offer 1 0 = 8; gift 9 1 = I; offer 1 1 = 9; gift 9 1 = 1; gift 10 1 = I",
            "offer 1 2 = S; offer 1 2 = S; gift 10 1 = I; gift 0 3 = 3; gift 9 2 = 3; gift 8 5 = 5");
        Script.sentence("Terms", "An offer is open as long as the runner has a best run in the category.",
            FIVE, "submit 0 0 0; submit 0 1 0; submit 0 0 1; submit 1 0 0; offer 0 0 = 0; gift 0 1 = 1; strike 0",
            "gift 0 1 = 2; plan 154 = 1; strike 1; gift 0 1 = S; plan 10000 = 0; strike 0; gift 0 1 = 3; plan 143 = 1",
            "rule 0 0 0 1 0; gift 0 1 = S; plan 10000 = 0; rule 0 0 0 0 0; gift 0 1 = 4; plan 10000 = 1");
    }

    private static void plans() {
        String sentence = "A plan for some room is a set of open offers whose estimates together are at most the room,"
            + " with the greatest sum of gifts; of several such the one with the least sum of estimates; of these the lowest,"
            + " as a number.";
        // At most the room: 143, 154, and 297 together.
        Script.sentence("Terms", sentence,
            offers(0, 5, 1, 7), "plan 0 = 0; plan 142 = 0; plan 143 = 1; plan 153 = 1; plan 154 = 2; plan 296 = 2",
            "plan 297 = 3; plan 10000 = 3",
            // The greatest sum of gifts, by one gift more: two for 21 or one for 20, and 21 against 22.
            Script.NEW, offers(0, 10, 0, 11, 3, 20), "plan 286 = 3; plan 318 = 3; plan 319 = 6; plan 10000 = 7; plan 175 = 2",
            "plan 176 = 4",
            Script.NEW, offers(0, 10, 0, 10, 3, 20), "plan 286 = 4; plan 318 = 4; gift 0 1 = 11; plan 286 = 3",
            // The least sum of estimates: 143 rather than 154, one rather than two, none without gifts.
            Script.NEW, offers(1, 10, 0, 10), "plan 10000 = 3; plan 160 = 2; plan 154 = 2; plan 143 = 2; plan 142 = 0",
            Script.NEW, offers(0, 0, 1, 0), "plan 10000 = 0; gift 1 1 = 1; plan 10000 = 2; gift 0 1 = 1; plan 10000 = 3",
            "plan 296 = 1",
            // The lowest number: of four alike the first ones; 6 rather than 9, both with 23 gifts and 319 ticks.
            Script.NEW, offers(0, 5, 0, 5, 0, 5, 0, 5), "plan 143 = 1; plan 286 = 3; plan 429 = 7; plan 571 = 7",
            "plan 572 = 15; strike 0; plan 143 = 2; plan 286 = 6; strike 0",
            Script.NEW, offers(3, 13, 2, 12, 1, 11, 0, 10), "plan 319 = 6; gift 0 1 = 14; plan 319 = 9; gift 1 1 = 13",
            "plan 319 = 6");
        // Only open ones, by the estimates of now.
        Script.sentence("Terms", sentence,
            offers(0, 5, 1, 7, 2, 9), "plan 10000 = 7; strike 1; plan 10000 = 5; strike 0; plan 10000 = 4; strike 2",
            "plan 10000 = 0; strike 1; plan 10000 = 2; submit 1 3 0 = 3; plan 164 = 0; plan 165 = 2",
            Script.NEW, FIVE, Script.forAll(0, 7, "submit # 0 0; offer 0 # = #; gift # 1"), "submit 0 0 1; submit 1 0 1",
            "offer 1 0 = 8; offer 1 1 = 9; gift 8 1; gift 9 1; plan 1429 = 511; plan 1430 = 1023; plan 10000 = 1023",
            "plan 143 = 1; plan 0 = 0; strike 0; plan 10000 = 1022; plan 143 = 2");
    }

    private static void promise20() {
        Script.sentence("Promise 20", "Returns an estimate.", FIVE, "submit 0 0 0; submit 3 3 0; submit 0 2 1",
            "estimate 0 0 = 143; estimate 0 3 = 176; estimate 1 0 = 165");
        Script.sentence("Promise 20", "`category`: a category", BoardSentences.bounds("estimate", "-1"), Script.NEW, FIVE,
            "submit 0 0 1; estimate 0 0 = -1; estimate 1 0 = 143; estimate 2 0 = I");
        Script.sentence("Promise 20", "`runner`: 0 to 7", BoardSentences.bounds("estimate", "-1"), Script.NEW, FIVE,
            "submit 0 0 0; submit 7 1 0; estimate 0 0 = 143; estimate 0 7 = 154; estimate 0 8 = I; estimate 0 -1 = I");
        Script.sentence("Promise 20", "Returns the ticks, -1 if no run of the runner counts there.",
            FIVE, "estimate 0 0 = -1; submit 0 0 0; estimate 0 0 = 143; estimate 1 0 = -1; estimate 0 1 = -1; strike 0",
            "estimate 0 0 = -1; strike 0; estimate 0 0 = 143; rule 0 0 0 1 0; estimate 0 0 = -1");
        Script.sentence("Promise 20", "Throws `IndexOutOfBoundsException` if there is no such category or runner",
            BoardSentences.bounds("estimate", "-1"));
    }

    private static void promise21() {
        String range = "submit 0 0 0; submit 7 0 0; submit 0 0 1; offer 0 -1 = I; offer 0 8 = I; offer 0 MIN = I; offer 0 MAX = I"
            + "; offer -1 0 = I; offer 2 0 = I; offer 6 0 = I; offer MIN 0 = I; offer MAX 0 = I; offer 0 0 = 0"
            + "; offer 0 7 = 1; offer 1 0 = 2; gift 3 1 = I";
        Script.sentence("Promise 21", "Lets a runner offer a category.", FIVE, "submit 2 0 0; offer 0 2 = 0; gift 0 4 = 4",
            "plan 143 = 1; submit 2 1 1; offer 1 2 = 1; gift 1 4 = 4; plan 297 = 3; plan 296 = 1");
        Script.sentence("Promise 21", "`category`: a category", FIVE, range);
        Script.sentence("Promise 21", "`runner`: 0 to 7", FIVE, range);
        Script.sentence("Promise 21", "Returns number of the offer.", FIVE, "submit 5 0 0; submit 4 0 0; submit 5 0 1",
            "offer 0 4 = 0; offer 1 5 = 1; offer 0 5 = 2");
        Script.sentence("Promise 21", "Throws `IndexOutOfBoundsException` if there is no such category or runner",
            "offer 0 0 = I; level; offer 0 0 = I; category 0; offer 0 8 = I; offer 1 0 = I", Script.NEW, FIVE, range);
        String state = "Throws `IllegalStateException` if the runner is not on the board, has offered this category,"
            + " or there are 10 offers";
        Script.sentence("Promise 21", state,
            // Not on the board: no run, a run of another category or runner, a run that does not count.
            FIVE, "offer 0 0 = S; submit 0 0 1; submit 1 0 0; offer 0 0 = S; submit 0 0 0; strike 2; offer 0 0 = S; strike 2",
            "rule 0 0 0 1 0; offer 0 0 = S; rule 0 0 0 0 0; gift 0 1 = I; offer 0 0 = 0; gift 0 1 = 1",
            // Offered already, open or not; another category and another runner are others.
            Script.NEW, FIVE, "submit 0 0 0; submit 0 0 1; submit 1 0 0; offer 0 0 = 0; offer 0 0 = S; strike 0",
            "offer 0 0 = S; strike 0; offer 0 0 = S; offer 1 0 = 1; offer 0 1 = 2; offer 1 0 = S; offer 0 1 = S; gift 3 1 = I",
            // Ten, also if they are not open.
            Script.NEW, FIVE, Script.forAll(0, 7, "submit # 0 0; submit # 1 1"), Script.forAll(0, 7, "offer 0 # = #"),
            "offer 1 0 = 8; gift 9 1 = I; offer 1 1 = 9; offer 1 2 = S; gift 10 1 = I; strike 0; strike 2; offer 1 2 = S",
            "offer 0 0 = S");
    }

    private static void promise22() {
        String oneOffer = offers(0, 0, 1, 0);
        Script.sentence("Promise 22", "Gives a gift to an offer.", oneOffer, "plan 10000 = 0; gift 1 1 = 1; plan 10000 = 2",
            "gift 0 1 = 1; plan 10000 = 3; plan 200 = 1; gift 1 1 = 2; plan 200 = 2");
        Script.sentence("Promise 22", "`offer`: an offer", oneOffer, "gift -1 1 = I; gift 2 1 = I; gift 10 1 = I",
            "gift MIN 1 = I; gift MAX 1 = I; gift 0 1 = 1; gift 1 1 = 1");
        Script.sentence("Promise 22", "`amount`: 1 to 1000", oneOffer, "gift 0 0 = A; gift 0 -1 = A; gift 0 1001 = A",
            "gift 0 MIN = A; gift 0 MAX = A; gift 0 1 = 1; gift 0 1000 = 1001; gift 0 1001 = A; gift 0 999 = 2000");
        Script.sentence("Promise 22", "Returns what was given to it in all.", oneOffer, "gift 0 1 = 1; gift 0 1 = 2",
            "gift 1 5 = 5; gift 0 1000 = 1002; strike 0; strike 0; gift 0 1 = 1003; gift 1 1 = 6",
            Script.times(99, "gift 1 1000"), "gift 1 1000 = 100006");
        Script.sentence("Promise 22", "Throws `IndexOutOfBoundsException` if there is no such offer", "gift 0 1 = I",
            Script.NEW, FIVE, "gift 0 1 = I; submit 0 0 0; gift 0 1 = I; offer 0 0; gift 0 1 = 1; gift 1 1 = I; gift -1 1 = I");
        Script.sentence("Promise 22", "Throws `IllegalArgumentException` if amount is out of range", oneOffer,
            "gift 0 3; gift 0 0 = A; gift 0 1001 = A; gift 0 -1000 = A; gift 0 1 = 4; plan 10000 = 1");
        Script.sentence("Promise 22", "Throws `IllegalStateException` if it is not open",
            oneOffer, "gift 0 3 = 3; strike 0; gift 0 1 = S; gift 0 1000 = S; gift 1 1 = 1; submit 0 0 1 = 2; gift 0 1 = S",
            "submit 0 3 0 = 3; gift 0 1 = 4; strike 3; gift 0 1 = S; strike 0; gift 0 1 = 5; rule 0 0 0 1 0; gift 0 1 = S",
            "gift 1 1 = S; rule 0 0 0 0 0; gift 0 1 = 6; gift 1 1 = 2");
    }

    private static void promise23() {
        Script.sentence("Promise 23", "Returns the plan for some room.", offers(0, 3, 1, 4, 2, 5),
            "plan 142 = 0; plan 143 = 1; plan 154 = 2; plan 165 = 4; plan 296 = 4; plan 297 = 3; plan 307 = 3; plan 308 = 5",
            "plan 319 = 6; plan 461 = 6; plan 462 = 7");
        Script.sentence("Promise 23", "`room`: 0 to 10000 ticks", "plan 0 = 0; plan 10000 = 0; plan -1 = A; plan 10001 = A",
            Script.NEW, offers(0, 3), "plan -1 = A; plan 0 = 0; plan 10000 = 1; plan 10001 = A; plan MIN = A; plan MAX = A",
            "plan 143 = 1");
        Script.sentence("Promise 23", "Returns the offers, as a set: bit o for the offer o.",
            FIVE, Script.forAll(0, 7, "submit # 0 0; offer 0 # = #"), "submit 0 0 1; submit 1 0 1; offer 1 0 = 8",
            "offer 1 1 = 9; plan 10000 = 0; gift 9 1; plan 10000 = 512; gift 0 1; plan 10000 = 513; plan 143 = 1; gift 9 1",
            "plan 143 = 512", Script.forAll(1, 8, "gift # 1"), "plan 10000 = 1023");
        Script.sentence("Promise 23", "Throws `IllegalArgumentException` if room is out of range", offers(0, 3),
            "plan -1 = A; plan 10001 = A; plan MIN = A; plan MAX = A; plan 10000 = 1; plan 0 = 0");
    }
}
