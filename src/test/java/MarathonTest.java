/** Promises 20 to 23: estimate, offer, gift and plan. */
public final class MarathonTest {
    public static void main(String[] args) {
        estimatesTakeTheirRanges();
        estimatesAreOfTheLatestThree();
        estimatesAreRoundedUp();
        estimatesKnowWhatCounts();
        offersTakeTheirRanges();
        offersWantABoard();
        offersAreNumberedUpToTen();
        giftsTakeTheirRanges();
        giftsAreAddedWhileOpen();
        plansTakeTheirRange();
        plansFitTheRoom();
        plansHaveTheGreatestGifts();
        plansHaveTheLeastEstimates();
        plansAreTheLowest();
        plansAreOfOpenOffers();
        plansOfTenOffers();
        Check.end();
    }

    private static void estimatesTakeTheirRanges() {
        SplitGate x = Make.archive(1, 0);
        int[][] wrong = {{-1, 0}, {1, 0}, {Integer.MAX_VALUE, 0}, {0, -1}, {0, 8}, {0, Integer.MIN_VALUE}, {1, 8}};
        for (int[] pair : wrong) {
            String told = "(" + pair[0] + ", " + pair[1] + ")";
            Check.throwsIndex("estimate" + told, () -> x.estimate(pair[0], pair[1]));
        }
        for (int runner = 0; runner < 8; runner++) {
            Check.due("estimate without a run", x.estimate(0, runner), -1);
        }
    }

    private static void dueEstimate(String what, SplitGate x, int estimate) {
        Check.due(what + ": estimate(0, 0)", x.estimate(0, 0), estimate);
    }

    private static void estimatesAreOfTheLatestThree() {
        SplitGate x = Make.archive(1, 0, 0);
        int a = Make.walk(x, 0, 130);
        int b = Make.walk(x, 0, 140);
        int c = Make.walk(x, 0, 150);
        int d = Make.walk(x, 0, 190);
        x.submit(0, a, 0);
        dueEstimate("130", x, 143);
        x.submit(1, d, 0);
        x.submit(0, d, 1);
        dueEstimate("130, and others", x, 143);
        Check.due("estimate of another category", x.estimate(1, 0), 209);
        Check.due("estimate of another runner", x.estimate(0, 1), 209);
        x.submit(0, b, 0);
        dueEstimate("130, 140", x, 149);
        x.pass(3);
        x.submit(0, c, 0);
        dueEstimate("130, 140, 150", x, 154);
        x.submit(0, d, 0);
        dueEstimate("140, 150, 190", x, 176);
        x.pass(3);
        x.submit(0, a, 0);
        dueEstimate("150, 190, 130", x, 173);
    }

    private static void estimatesAreRoundedUp() {
        int[][] dues = {{122, 135}, {123, 136}, {129, 142}, {130, 143}, {131, 145}, {140, 154}, {149, 164}};
        for (int[] due : dues) {
            SplitGate x = Make.archive(1, 0);
            x.submit(0, Make.walk(x, 0, due[0]), 0);
            dueEstimate("of " + due[0], x, due[1]);
        }
        SplitGate x = Make.archive(1, 0);
        x.submit(0, Make.walk(x, 0, 130), 0);
        x.submit(0, Make.walk(x, 0, 131), 0);
        dueEstimate("of 130, 131", x, 144);
        x.submit(0, Make.walk(x, 0, 129), 0);
        dueEstimate("of 130, 131, 129", x, 143);
        x.submit(0, Make.walk(x, 0, 131), 0);
        dueEstimate("of 131, 129, 131", x, 144);
    }

    private static void estimatesKnowWhatCounts() {
        SplitGate x = Make.archive(1, 0);
        int dashing = Make.replay(x, 0, Make.RIGHT + Make.DASH, 1, Make.RIGHT, 100, Make.RIGHT, 22);
        x.submit(0, Make.walk(x, 0, 130), 0);
        x.submit(0, Make.walk(x, 0, 140), 0);
        x.submit(0, Make.walk(x, 0, 150), 0);
        x.submit(0, dashing, 0);
        dueEstimate("with a dash", x, 150);
        x.rule(0, 0, 2, 0, 500);
        dueEstimate("the dash refused", x, 154);
        x.strike(1);
        dueEstimate("one struck", x, 154);
        x.strike(2);
        dueEstimate("two struck", x, 143);
        x.strike(0);
        dueEstimate("three struck", x, -1);
        x.strike(2);
        dueEstimate("one restored", x, 165);
    }

    private static void offersTakeTheirRanges() {
        SplitGate x = Make.archive(1, 0);
        x.submit(7, Make.walk(x, 0, 130), 0);
        int[][] wrong = {{-1, 0}, {1, 0}, {Integer.MAX_VALUE, 0}, {0, -1}, {0, 8}, {0, Integer.MIN_VALUE}, {1, 8}};
        for (int[] pair : wrong) {
            String told = "(" + pair[0] + ", " + pair[1] + ")";
            Check.throwsIndex("offer" + told, () -> x.offer(pair[0], pair[1]));
        }
        Check.due("offer(0, 7)", x.offer(0, 7), 0);
    }

    private static void offersWantABoard() {
        SplitGate x = Make.archive(1, 0, 0);
        int replay = Make.walk(x, 0, 130);
        Check.throwsState("offer without a run", () -> x.offer(0, 0));
        x.submit(0, replay, 0);
        Check.throwsState("offer of the other category", () -> x.offer(1, 0));
        Check.throwsState("offer by another runner", () -> x.offer(0, 1));
        x.strike(0);
        Check.throwsState("offer of a struck run", () -> x.offer(0, 0));
        x.strike(0);
        Check.due("offer(0, 0)", x.offer(0, 0), 0);
        Check.throwsState("offer, once more", () -> x.offer(0, 0));
        x.strike(0);
        Check.throwsState("offer, once more, of a struck run", () -> x.offer(0, 0));
        x.submit(0, replay, 1);
        x.submit(1, replay, 0);
        Check.due("offer(1, 0)", x.offer(1, 0), 1);
        Check.due("offer(0, 1)", x.offer(0, 1), 2);
        Check.throwsIndex("gift(3)", () -> x.gift(3, 1));
    }

    private static SplitGate tenOffers() {
        SplitGate x = Make.archive(1, 0, 0);
        int replay = Make.walk(x, 0, 130);
        for (int i = 0; i < 12; i++) {
            x.submit(i % 8, replay, i / 8);
        }
        for (int i = 0; i < 10; i++) {
            Check.due("offer " + i, x.offer(i / 8, i % 8), i);
        }
        return x;
    }

    private static void offersAreNumberedUpToTen() {
        SplitGate x = tenOffers();
        Check.throwsState("offer 10", () -> x.offer(1, 2));
        Check.throwsState("offer 10, once more", () -> x.offer(0, 0));
        Check.throwsIndex("offer 10, runner 8", () -> x.offer(1, 8));
        Check.throwsIndex("gift(10)", () -> x.gift(10, 1));
        Check.due("gift(9, 1)", x.gift(9, 1), 1);
    }

    private static void giftsTakeTheirRanges() {
        SplitGate x = Make.archive(1, 0);
        x.submit(0, Make.walk(x, 0, 130), 0);
        x.offer(0, 0);
        Check.throwsIndex("gift(-1)", () -> x.gift(-1, 1));
        Check.throwsIndex("gift(1)", () -> x.gift(1, 1));
        Check.throwsIndex("gift(1), 0", () -> x.gift(1, 0));
        Check.throwsIndex("gift(most)", () -> x.gift(Integer.MAX_VALUE, 1));
        Check.throwsArgument("gift: 0", () -> x.gift(0, 0));
        Check.throwsArgument("gift: -1", () -> x.gift(0, -1));
        Check.throwsArgument("gift: 1001", () -> x.gift(0, 1001));
        Check.throwsArgument("gift: most", () -> x.gift(0, Integer.MAX_VALUE));
        Check.due("gift(0, 1)", x.gift(0, 1), 1);
        Check.due("gift(0, 1000)", x.gift(0, 1000), 1001);
    }

    private static void giftsAreAddedWhileOpen() {
        SplitGate x = Make.archive(1, 0);
        x.submit(0, Make.walk(x, 0, 130), 0);
        x.submit(0, Make.walk(x, 0, 140), 0);
        x.submit(1, Make.walk(x, 0, 150), 0);
        x.offer(0, 0);
        x.offer(0, 1);
        Check.due("gift(0, 5)", x.gift(0, 5), 5);
        Check.due("gift(1, 7)", x.gift(1, 7), 7);
        Check.due("gift(0, 6)", x.gift(0, 6), 11);
        x.strike(0);
        Check.due("gift(0, 1), one left", x.gift(0, 1), 12);
        x.strike(1);
        Check.throwsState("gift, not open", () -> x.gift(0, 1));
        Check.throwsArgument("gift of 0, not open", () -> x.gift(0, 0));
        Check.due("gift of another, open", x.gift(1, 1), 8);
        x.strike(0);
        Check.due("gift, open again", x.gift(0, 1), 13);
        x.rule(0, 0, 0, 1, 500);
        Check.throwsState("gift, refused", () -> x.gift(0, 1));
        x.rule(0, 0, 0, 0, 500);
        Check.due("gift, allowed again", x.gift(0, 1), 14);
    }

    private static void plansTakeTheirRange() {
        SplitGate x = new SplitGate();
        Check.throwsArgument("plan(-1)", () -> x.plan(-1));
        Check.throwsArgument("plan(10001)", () -> x.plan(10001));
        Check.throwsArgument("plan(least)", () -> x.plan(Integer.MIN_VALUE));
        Check.throwsArgument("plan(most)", () -> x.plan(Integer.MAX_VALUE));
        Check.due("plan(0)", x.plan(0), 0);
        Check.due("plan(10000)", x.plan(10000), 0);
    }

    /** Offers by the runners from 0, told as pairs of ticks and gifts. */
    private static SplitGate offers(int... ticksAndGifts) {
        SplitGate x = Make.archive(1, 0);
        for (int i = 0; i + 1 < ticksAndGifts.length; i += 2) {
            int offer = i / 2;
            x.submit(offer, Make.walk(x, 0, ticksAndGifts[i]), 0);
            x.offer(0, offer);
            if (ticksAndGifts[i + 1] > 0) {
                x.gift(offer, ticksAndGifts[i + 1]);
            }
        }
        return x;
    }

    private static void plansFitTheRoom() {
        SplitGate x = offers(130, 5, 140, 7);
        Check.due("plan(142)", x.plan(142), 0);
        Check.due("plan(143)", x.plan(143), 1);
        Check.due("plan(153)", x.plan(153), 1);
        Check.due("plan(154)", x.plan(154), 2);
        Check.due("plan(296)", x.plan(296), 2);
        Check.due("plan(297)", x.plan(297), 3);
        Check.due("plan(10000)", x.plan(10000), 3);
        Check.due("plan(0)", x.plan(0), 0);
    }

    private static void plansHaveTheGreatestGifts() {
        SplitGate x = offers(130, 10, 140, 15, 150, 12, 160, 9);
        Check.due("two of four", x.plan(319), 6);
        Check.due("two of four, less room", x.plan(310), 3);
        Check.due("three of four", x.plan(480), 7);
        SplitGate y = offers(130, 10, 130, 10, 190, 19);
        Check.due("two rather than one", y.plan(286), 3);
        y.gift(2, 2);
        Check.due("one rather than two", y.plan(286), 4);
    }

    private static void plansHaveTheLeastEstimates() {
        SplitGate x = offers(140, 10, 130, 10);
        Check.due("one of two", x.plan(160), 2);
        SplitGate y = offers(130, 10, 140, 0, 150, 3);
        Check.due("without what has no gifts", y.plan(10000), 5);
        SplitGate none = offers(130, 0);
        Check.due("nothing, when there are no gifts", none.plan(10000), 0);
        SplitGate z = offers(190, 20, 130, 10, 130, 10);
        Check.due("one rather than two", z.plan(300), 1);
    }

    private static void plansAreTheLowest() {
        SplitGate x = offers(130, 5, 130, 5, 130, 5, 130, 5);
        Check.due("one of four", x.plan(143), 1);
        Check.due("two of four", x.plan(286), 3);
        Check.due("three of four", x.plan(429), 7);
        SplitGate y = offers(160, 13, 150, 12, 140, 11, 130, 10);
        Check.due("6 rather than 9", y.plan(319), 6);
    }

    private static void plansAreOfOpenOffers() {
        SplitGate x = offers(130, 5, 140, 7, 150, 9);
        x.strike(1);
        Check.due("one not open", x.plan(10000), 5);
        x.strike(0);
        Check.due("two not open", x.plan(10000), 4);
        x.strike(2);
        Check.due("none open", x.plan(10000), 0);
        x.strike(1);
        Check.due("one open", x.plan(10000), 2);
        Check.due("gift to the one", x.gift(1, 1), 8);
        x.rule(0, 0, 0, 1, 500);
        Check.due("refused", x.plan(10000), 0);
        SplitGate estimates = offers(130, 5);
        estimates.submit(0, Make.walk(estimates, 0, 190), 0);
        Check.due("the estimate of both", estimates.plan(175), 0);
        Check.due("the estimate of both", estimates.plan(176), 1);
    }

    private static void plansOfTenOffers() {
        SplitGate x = tenOffers();
        for (int i = 0; i < 10; i++) {
            x.gift(i, 10 + i);
        }
        Check.due("all ten", x.plan(1430), 1023);
        Check.due("nine", x.plan(1429), 1022);
        Check.due("the last", x.plan(143), 512);
        Check.due("none", x.plan(142), 0);
        x.strike(9);
        Check.due("nine of nine", x.plan(10000), 511);
    }
}
