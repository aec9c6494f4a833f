/** Promises 4 to 8: replay, input, result, used and where, with the ticks of the Terms. */
public final class ReplaysTest {
    private static final int LEFT = Make.LEFT;
    private static final int RIGHT = Make.RIGHT;
    private static final int JUMP = Make.JUMP;
    private static final int DASH = Make.DASH;

    public static void main(String[] args) {
        replaysAreNumberedUpToTwenty();
        inputsTakeTheirRanges();
        inputsEndWithTwentyPieces();
        inputsEndWithFiveHundredTicks();
        submittedReplaysTakeNoInput();
        resultAndUsedAndWhereKnowTheirReplays();
        whereKnowsItsTicks();
        theHeroStartsOnTheFirstColumn();
        theHeroWalks();
        theHeroIsBlocked();
        theHeroJumps();
        theHeroFallsOffAnEdge();
        theFallHasAGreatestSpeed();
        theHeroDashes();
        theHeroDashesOnceInTheAir();
        theHeroClips();
        theHeroDoesNotClip();
        theHeroTakesCoins();
        theHeroDiesInAGap();
        theHeroDiesOnSpikes();
        theHeroComesHome();
        aReplayThatIsOverStaysSo();
        Check.end();
    }

    private static SplitGate level(int... columnHeightItem) {
        SplitGate x = Make.archive(1);
        for (int i = 0; i + 2 < columnHeightItem.length; i += 3) {
            x.column(0, columnHeightItem[i], columnHeightItem[i + 1], columnHeightItem[i + 2]);
        }
        return x;
    }

    private static void dueWhere(String what, SplitGate x, int replay, int tick, int height, int place) {
        Check.due(what + ": where behind tick " + tick, x.where(replay, tick), 1000 * height + place);
    }

    private static void dueEnd(String what, SplitGate x, int replay, int ticks, int end, int used) {
        Check.due(what + ": result", x.result(replay), 10 * ticks + end);
        Check.due(what + ": used", x.used(replay), used);
    }

    private static void replaysAreNumberedUpToTwenty() {
        SplitGate x = Make.archive(2);
        Check.throwsIndex("replay(-1)", () -> x.replay(-1));
        Check.throwsIndex("replay(2)", () -> x.replay(2));
        Check.throwsIndex("replay(least)", () -> x.replay(Integer.MIN_VALUE));
        Check.throwsIndex("replay(most)", () -> x.replay(Integer.MAX_VALUE));
        for (int i = 0; i < 20; i++) {
            Check.due("replay() " + i, x.replay(i % 2), i);
            Check.due("result of a new replay", x.result(i), 0);
            Check.due("used of a new replay", x.used(i), 0);
            Check.due("where of a new replay", x.where(i, 0), 8);
        }
        Check.throwsState("replay() of 20", () -> x.replay(0));
        Check.throwsIndex("replay(2) of 20", () -> x.replay(2));
        Check.throwsIndex("result(20) of 20", () -> x.result(20));
    }

    private static void inputsTakeTheirRanges() {
        SplitGate x = Make.archive(1);
        x.replay(0);
        Check.throwsIndex("input: replay -1", () -> x.input(-1, 0, 1));
        Check.throwsIndex("input: replay 1", () -> x.input(1, 0, 1));
        Check.throwsIndex("input: replay most", () -> x.input(Integer.MAX_VALUE, 0, 1));
        Check.throwsIndex("input: replay 1 and buttons wrong", () -> x.input(1, 16, 0));
        Check.throwsArgument("input: buttons -1", () -> x.input(0, -1, 1));
        Check.throwsArgument("input: buttons 16", () -> x.input(0, 16, 1));
        Check.throwsArgument("input: ticks 0", () -> x.input(0, 0, 0));
        Check.throwsArgument("input: ticks -1", () -> x.input(0, 0, -1));
        Check.throwsArgument("input: ticks 101", () -> x.input(0, 0, 101));
        Check.throwsArgument("input: ticks most", () -> x.input(0, 0, Integer.MAX_VALUE));
        Check.due("result: unchanged", x.result(0), 0);
        Check.due("input(0, 15, 1)", x.input(0, 15, 1), 1);
        Check.due("input(0, 0, 100)", x.input(0, 0, 100), 101);
        Check.due("input(0, 0, 7)", x.input(0, 0, 7), 108);
    }

    private static void inputsEndWithTwentyPieces() {
        SplitGate x = Make.archive(1);
        x.replay(0);
        for (int i = 1; i <= 20; i++) {
            Check.due("input: piece " + i, x.input(0, 0, 2), 2 * i);
        }
        Check.throwsState("input: piece 21", () -> x.input(0, 0, 2));
        Check.throwsArgument("input: piece 21, ticks 0", () -> x.input(0, 0, 0));
        Check.throwsArgument("input: piece 21, buttons 16", () -> x.input(0, 16, 1));
        Check.due("result of 20 pieces", x.result(0), 400);
        x.replay(0);
        Check.due("input of another replay", x.input(1, 0, 2), 2);
    }

    private static void inputsEndWithFiveHundredTicks() {
        SplitGate x = Make.archive(1);
        Make.replay(x, 0, 0, 100, 0, 100, 0, 100, 0, 100, 0, 99);
        Check.throwsState("input: 501 ticks", () -> x.input(0, 0, 2));
        Check.throwsArgument("input: 600 ticks, of 101", () -> x.input(0, 0, 101));
        Check.due("result of 499 ticks", x.result(0), 4990);
        Check.due("input: 500 ticks", x.input(0, 0, 1), 500);
        Check.throwsState("input: 501 ticks, of 1", () -> x.input(0, 0, 1));
        Check.due("result of 500 ticks", x.result(0), 5000);
        dueWhere("500 ticks", x, 0, 500, 0, 8);
    }

    private static void submittedReplaysTakeNoInput() {
        SplitGate x = Make.archive(2, 0, 1);
        int replay = Make.walk(x, 0, 122);
        int early = Make.replay(x, 0, RIGHT, 100);
        Check.throwsState("submit: not home", () -> x.submit(0, early, 0));
        Check.due("input behind a refused submit", x.input(early, RIGHT, 5), 105);
        Check.throwsArgument("submit: other level", () -> x.submit(0, replay, 1));
        Check.due("input behind another refused submit", x.input(replay, 0, 1), 123);
        x.submit(0, replay, 0);
        Check.throwsState("input behind submit", () -> x.input(replay, 0, 1));
        Check.throwsArgument("input behind submit, ticks 0", () -> x.input(replay, 0, 0));
        x.strike(0);
        Check.throwsState("input behind strike", () -> x.input(replay, 0, 1));
        Check.due("result behind that", x.result(replay), 1221);
    }

    private static void resultAndUsedAndWhereKnowTheirReplays() {
        SplitGate x = Make.archive(1);
        x.replay(0);
        int[] none = {-1, 1, 20, Integer.MIN_VALUE, Integer.MAX_VALUE};
        for (int replay : none) {
            Check.throwsIndex("result(" + replay + ")", () -> x.result(replay));
            Check.throwsIndex("used(" + replay + ")", () -> x.used(replay));
            Check.throwsIndex("where(" + replay + ", 0)", () -> x.where(replay, 0));
        }
    }

    private static void whereKnowsItsTicks() {
        SplitGate x = level(2, 0, 2);
        int replay = Make.replay(x, 0, RIGHT, 3);
        Check.throwsIndex("where: tick -1", () -> x.where(replay, -1));
        Check.throwsIndex("where: tick 4 of 3", () -> x.where(replay, 4));
        Check.throwsIndex("where: tick most", () -> x.where(replay, Integer.MAX_VALUE));
        Check.throwsIndex("where: tick least", () -> x.where(replay, Integer.MIN_VALUE));
        dueWhere("3 ticks", x, replay, 3, 0, 20);
        x.input(replay, RIGHT, 10);
        dueWhere("died behind 6", x, replay, 6, 0, 32);
        Check.throwsIndex("where: behind the end", () -> x.where(replay, 7));
        dueWhere("died behind 6", x, replay, 0, 0, 8);
        dueWhere("died behind 6", x, replay, 5, 0, 28);
    }

    private static void theHeroStartsOnTheFirstColumn() {
        for (int height = 0; height <= 6; height++) {
            SplitGate x = level(0, height, 0);
            int replay = Make.replay(x, 0, 0, 2);
            dueWhere("start at " + height, x, replay, 0, 16 * height, 8);
            dueWhere("start at " + height, x, replay, 2, 16 * height, 8);
        }
        SplitGate x = level(0, -1, 0);
        int replay = Make.replay(x, 0, 0, 1);
        dueWhere("start in a gap", x, replay, 0, 0, 8);
        dueWhere("start in a gap", x, replay, 1, -2, 8);
        int jumping = Make.replay(x, 0, JUMP, 2);
        dueWhere("start in a gap, jumping", x, jumping, 1, 12, 8);
        dueWhere("start in a gap, jumping", x, jumping, 2, 22, 8);
        dueEnd("start in a gap, jumping", x, jumping, 2, 0, 10);
    }

    private static void theHeroWalks() {
        SplitGate x = Make.archive(1);
        int right = Make.replay(x, 0, RIGHT, 3);
        dueWhere("right", x, right, 1, 0, 12);
        dueWhere("right", x, right, 3, 0, 20);
        dueEnd("right", x, right, 3, 0, 0);
        int left = Make.replay(x, 0, RIGHT, 1, LEFT, 5);
        dueWhere("left", x, left, 2, 0, 8);
        dueWhere("left", x, left, 4, 0, 0);
        dueWhere("left", x, left, 6, 0, 0);
        dueEnd("left", x, left, 6, 0, 1);
        int both = Make.replay(x, 0, LEFT + RIGHT, 3);
        dueWhere("left and right", x, both, 3, 0, 8);
        dueEnd("left and right", x, both, 3, 0, 0);
    }

    private static void theHeroIsBlocked() {
        SplitGate x = level(1, 1, 0);
        int walking = Make.replay(x, 0, RIGHT, 5);
        dueWhere("blocked", x, walking, 5, 0, 12);
        int dashing = Make.replay(x, 0, RIGHT + DASH, 1, RIGHT, 1);
        dueWhere("blocked dash", x, dashing, 1, 0, 8);
        dueWhere("blocked dash", x, dashing, 2, 0, 12);
        dueEnd("blocked dash", x, dashing, 2, 0, 2);
        SplitGate y = level(0, 0, 0, 1, 1, 0, 2, 1, 0);
        int over = Make.replay(y, 0, RIGHT, 1, JUMP, 2, RIGHT, 1);
        dueWhere("over a step", y, over, 4, 30, 16);
        SplitGate z = level(0, 1, 0, 1, 1, 0);
        dueWhere("level ground", z, Make.replay(z, 0, RIGHT, 2), 2, 16, 16);
        SplitGate gap = level(0, -1, 0);
        int stuck = Make.replay(gap, 0, RIGHT, 5);
        dueWhere("stuck in a gap", gap, stuck, 5, -30, 12);
        SplitGate leftwards = level(0, 0, 0, 1, -1, 0);
        int back = Make.replay(leftwards, 0, RIGHT, 2, LEFT, 2);
        dueWhere("blocked leftwards", leftwards, back, 4, -12, 16);
        dueEnd("blocked leftwards", leftwards, back, 4, 0, 1);
    }

    private static void theHeroJumps() {
        SplitGate x = Make.archive(1);
        int replay = Make.replay(x, 0, JUMP, 30);
        int[] heights = {0, 12, 22, 30, 36, 40, 42, 42, 40, 36, 30, 22, 12, 0, 0, 0};
        for (int tick = 0; tick < heights.length; tick++) {
            dueWhere("jump", x, replay, tick, heights[tick], 8);
        }
        dueEnd("jump, held", x, replay, 30, 0, 10);
        int again = Make.replay(x, 0, JUMP, 5, 0, 1, JUMP, 10, 0, 1, JUMP, 1);
        dueWhere("jump, pressed in the air", x, again, 7, 42, 8);
        dueWhere("jump, pressed in the air", x, again, 16, 0, 8);
        dueWhere("jump, pressed on the ground", x, again, 18, 12, 8);
        dueEnd("jump, twice", x, again, 18, 0, 20);
        int held = Make.replay(x, 0, JUMP, 5, JUMP + RIGHT, 20);
        dueEnd("jump, held over pieces", x, held, 25, 0, 10);
    }

    private static void theHeroFallsOffAnEdge() {
        SplitGate x = level(0, 1, 0);
        int replay = Make.replay(x, 0, RIGHT, 8);
        int[] heights = {16, 16, 14, 10, 4, 0, 0};
        for (int tick = 0; tick < heights.length; tick++) {
            dueWhere("edge", x, replay, tick, heights[tick], 8 + 4 * tick);
        }
        int late = Make.replay(x, 0, RIGHT, 2, RIGHT + JUMP, 1);
        dueWhere("no jump behind the edge", x, late, 3, 10, 20);
        dueEnd("no jump behind the edge", x, late, 3, 0, 0);
        int atOnce = Make.replay(x, 0, RIGHT, 1, RIGHT + JUMP, 1);
        dueWhere("jump at the edge", x, atOnce, 2, 28, 16);
        dueEnd("jump at the edge", x, atOnce, 2, 0, 10);
        int landed = Make.replay(x, 0, RIGHT, 5, RIGHT + JUMP, 1);
        dueWhere("jump behind landing", x, landed, 6, 12, 32);
        SplitGate steps = level(0, 2, 0, 1, 1, 0);
        int down = Make.replay(steps, 0, RIGHT, 6);
        dueWhere("down a step", steps, down, 5, 16, 28);
    }

    private static void theFallHasAGreatestSpeed() {
        SplitGate x = level(0, 6, 0);
        int replay = Make.replay(x, 0, JUMP + RIGHT, 25);
        int[] heights = {126, 118, 108, 96, 82, 68, 54, 40, 26, 12, 0, 0};
        for (int i = 0; i < heights.length; i++) {
            dueWhere("long fall", x, replay, 10 + i, heights[i], 8 + 4 * (10 + i));
        }
    }

    private static void theHeroDashes() {
        SplitGate x = Make.archive(1);
        int replay = Make.replay(x, 0, RIGHT + DASH, 2, RIGHT, 1, RIGHT + DASH, 1);
        dueWhere("dash", x, replay, 1, 0, 28);
        dueWhere("dash, held", x, replay, 2, 0, 32);
        dueWhere("dash, let go", x, replay, 3, 0, 36);
        dueWhere("dash, again", x, replay, 4, 0, 56);
        dueEnd("dash", x, replay, 4, 0, 2);
        int left = Make.replay(x, 0, RIGHT, 10, LEFT + DASH, 1, LEFT, 1, LEFT + DASH, 2);
        dueWhere("dash left", x, left, 11, 0, 28);
        dueWhere("dash left", x, left, 13, 0, 4);
        dueWhere("dash left, held", x, left, 14, 0, 0);
        dueEnd("dash left", x, left, 14, 0, 3);
        int clamped = Make.replay(x, 0, LEFT + DASH, 1);
        dueWhere("dash to the left end", x, clamped, 1, 0, 0);
        int still = Make.replay(x, 0, DASH, 1, RIGHT + DASH, 1);
        dueWhere("dash without a way", x, still, 2, 0, 12);
        dueEnd("dash without a way", x, still, 2, 0, 0);
        int both = Make.replay(x, 0, LEFT + RIGHT + DASH, 1);
        dueEnd("dash with left and right", x, both, 1, 0, 0);
        int end = Make.replay(x, 0, RIGHT, 100, RIGHT, 21, RIGHT + DASH, 3);
        dueWhere("dash to the right end", x, end, 121, 0, 492);
        dueWhere("dash to the right end", x, end, 122, 0, 511);
        dueEnd("dash to the right end", x, end, 122, 1, 2);
    }

    private static void theHeroDashesOnceInTheAir() {
        SplitGate x = Make.archive(1);
        int replay = Make.replay(x, 0, JUMP, 2, RIGHT + DASH, 1, RIGHT, 1, RIGHT + DASH, 1, 0, 7, RIGHT, 1, RIGHT + DASH, 1);
        dueWhere("air dash", x, replay, 3, 30, 28);
        dueWhere("air dash, again", x, replay, 5, 40, 36);
        dueWhere("air dash, landed", x, replay, 13, 0, 40);
        dueWhere("dash behind landing", x, replay, 14, 0, 60);
        int leap = Make.replay(x, 0, JUMP + RIGHT + DASH, 1, JUMP, 1, JUMP + RIGHT + DASH, 1);
        dueWhere("dash while leaping", x, leap, 1, 12, 28);
        dueWhere("dash behind leaping", x, leap, 3, 30, 32);
        int spared = Make.replay(x, 0, JUMP + DASH, 1, JUMP, 1, RIGHT + DASH, 1);
        dueWhere("dash spared while leaping", x, spared, 3, 30, 28);
    }

    private static void theHeroClips() {
        SplitGate x = level(1, 1, 0);
        int right = Make.replay(x, 0, RIGHT, 1, RIGHT + DASH, 1);
        dueWhere("clip", x, right, 2, 0, 32);
        dueEnd("clip", x, right, 2, 0, 6);
        int left = Make.replay(x, 0, RIGHT, 1, RIGHT + DASH, 1, 0, 1, LEFT + DASH, 1);
        dueWhere("clip left", x, left, 4, 0, 12);
        dueEnd("clip left", x, left, 4, 0, 7);
        int leaping = Make.replay(x, 0, RIGHT, 1, RIGHT + JUMP + DASH, 1);
        dueEnd("clip while leaping", x, leaping, 2, 0, 16);
        int low = Make.replay(x, 0, RIGHT, 1, JUMP, 1, RIGHT + DASH, 1);
        dueEnd("clip at the height 12", x, low, 3, 0, 16);
    }

    private static void theHeroDoesNotClip() {
        SplitGate x = level(1, 1, 0);
        int high = Make.replay(x, 0, RIGHT, 1, JUMP, 2, RIGHT + DASH, 1);
        dueEnd("no clip at the height 22", x, high, 4, 0, 12);
        int near = Make.replay(x, 0, RIGHT + DASH, 1, RIGHT, 3);
        dueEnd("no clip into the column itself", x, near, 4, 0, 2);
        SplitGate gap = level(1, -1, 0);
        int over = Make.replay(gap, 0, RIGHT, 1, RIGHT + DASH, 1);
        dueWhere("no clip over a gap", gap, over, 2, 0, 32);
        dueEnd("no clip over a gap", gap, over, 2, 0, 2);
        SplitGate deep = level(0, -1, 0, 1, -1, 0, 2, -1, 0);
        int below = Make.replay(deep, 0, RIGHT, 1, 0, 4, RIGHT + DASH, 1);
        dueWhere("no clip over a gap from below", deep, below, 6, -42, 32);
        dueEnd("no clip over a gap from below", deep, below, 6, 2, 2);
        SplitGate wall = level(1, 1, 0, 2, 1, 0);
        int blocked = Make.replay(wall, 0, RIGHT, 1, RIGHT + DASH, 1);
        dueWhere("no clip when blocked", wall, blocked, 2, 0, 12);
        dueEnd("no clip when blocked", wall, blocked, 2, 0, 2);
        SplitGate even = level(0, 1, 0, 1, 1, 0);
        int atFloor = Make.replay(even, 0, RIGHT, 1, RIGHT + DASH, 1);
        dueWhere("no clip over the same height", even, atFloor, 2, 14, 32);
        dueEnd("no clip over the same height", even, atFloor, 2, 0, 2);
    }

    private static void theHeroTakesCoins() {
        SplitGate x = level(0, 0, 1, 1, 0, 1, 3, 0, 1);
        int walking = Make.replay(x, 0, RIGHT, 1, RIGHT, 1, LEFT, 1, RIGHT, 1);
        dueEnd("two coins, each once", x, walking, 4, 0, 20001);
        int dashing = Make.replay(x, 0, RIGHT + DASH, 1, 0, 1, RIGHT + DASH, 1);
        dueWhere("over a coin", x, dashing, 3, 0, 48);
        dueEnd("no coin of a column left in the first tick", x, dashing, 3, 0, 20002);

        SplitGate high = level(1, 1, 1);
        int reach = Make.replay(high, 0, RIGHT, 1, JUMP, 5, JUMP + RIGHT, 1, JUMP, 1);
        dueWhere("26 above the floor", high, reach, 8, 42, 16);
        Check.due("26 above the floor: used", high.used(reach), 10);
        high.input(reach, JUMP, 1);
        dueWhere("24 above the floor", high, reach, 9, 40, 16);
        Check.due("24 above the floor: used", high.used(reach), 10010);

        SplitGate gap = level(0, 2, 0, 1, -1, 1);
        int falling = Make.replay(gap, 0, RIGHT, 3);
        dueWhere("26 above 0, in a gap", gap, falling, 3, 26, 20);
        Check.due("26 above 0, in a gap: used", gap.used(falling), 0);
        gap.input(falling, 0, 1);
        Check.due("20 above 0, in a gap: used", gap.used(falling), 10000);

        SplitGate last = level(31, 0, 1);
        int home = Make.walk(last, 0, 122);
        dueEnd("a coin in the last tick", last, home, 122, 1, 10000);
    }

    private static void theHeroDiesInAGap() {
        SplitGate x = level(0, -1, 0);
        int replay = Make.replay(x, 0, 0, 5);
        dueEnd("gap, 5 ticks", x, replay, 5, 0, 0);
        x.input(replay, 0, 5);
        dueWhere("gap", x, replay, 6, -42, 8);
        dueEnd("gap", x, replay, 6, 2, 0);

        SplitGate y = level(0, 5, 0, 1, -1, 0);
        int long32 = Make.replay(y, 0, RIGHT, 2, 0, 10);
        dueWhere("gap, at -32", y, long32, 12, -32, 16);
        dueEnd("gap, at -32", y, long32, 12, 0, 0);
        y.input(long32, 0, 5);
        dueEnd("gap, below -32", y, long32, 13, 2, 0);

        SplitGate z = level(30, -1, 0, 31, -1, 0);
        int inTime = Make.replay(z, 0, RIGHT, 100, RIGHT, 30);
        dueWhere("home while falling", z, inTime, 122, -30, 496);
        dueEnd("home while falling", z, inTime, 122, 1, 0);
        int late = Make.replay(z, 0, RIGHT, 100, RIGHT, 19, 0, 1, RIGHT, 30);
        dueWhere("died on the last column", z, late, 123, -42, 496);
        dueEnd("died on the last column", z, late, 123, 2, 0);
    }

    private static void theHeroDiesOnSpikes() {
        SplitGate x = level(1, 0, 2);
        int walking = Make.replay(x, 0, RIGHT, 5);
        dueEnd("spike", x, walking, 2, 2, 0);
        int jumping = Make.replay(x, 0, JUMP, 2, RIGHT, 20);
        dueEnd("over a spike", x, jumping, 22, 0, 10);
        int dashing = Make.replay(x, 0, RIGHT, 1, RIGHT + DASH, 1);
        dueEnd("dash over a spike", x, dashing, 2, 0, 2);

        SplitGate start = level(0, 0, 2);
        int none = start.replay(0);
        dueEnd("spike at the start, no tick", start, none, 0, 0, 0);
        start.input(none, 0, 1);
        dueEnd("spike at the start", start, none, 1, 2, 0);
        int leapt = Make.replay(start, 0, JUMP, 30);
        dueEnd("spike at the start, leapt", start, leapt, 13, 2, 10);

        SplitGate gap = level(0, -1, 2);
        int falling = Make.replay(gap, 0, 0, 30);
        dueEnd("no spike in a gap", gap, falling, 6, 2, 0);

        SplitGate end = level(31, 0, 2);
        int onSpike = Make.walk(end, 0, 122);
        dueEnd("spike at the end", end, onSpike, 122, 2, 0);
        int above = Make.replay(end, 0, RIGHT, 100, RIGHT, 20, RIGHT + JUMP, 9);
        dueEnd("home above a spike", end, above, 122, 1, 10);
    }

    private static void theHeroComesHome() {
        SplitGate x = Make.archive(1);
        int replay = Make.replay(x, 0, RIGHT, 100, RIGHT, 21);
        dueWhere("not yet home", x, replay, 121, 0, 492);
        dueEnd("not yet home", x, replay, 121, 0, 0);
        x.input(replay, RIGHT, 1);
        dueWhere("home", x, replay, 122, 0, 496);
        dueEnd("home with the last tick", x, replay, 122, 1, 0);
    }

    private static void aReplayThatIsOverStaysSo() {
        SplitGate x = level(1, 0, 1);
        int replay = Make.replay(x, 0, RIGHT, 100, RIGHT, 22);
        Check.due("input behind home", x.input(replay, LEFT + DASH, 100), 222);
        Check.due("input behind home", x.input(replay, JUMP, 100), 322);
        dueEnd("behind home", x, replay, 122, 1, 10000);
        dueWhere("behind home", x, replay, 122, 0, 496);
        SplitGate y = level(0, 0, 2, 1, 0, 1);
        int died = Make.replay(y, 0, 0, 1, RIGHT + DASH, 10);
        dueEnd("behind dying", y, died, 1, 2, 0);
        dueWhere("behind dying", y, died, 1, 0, 8);
    }
}
