/** Promises 9 to 14: category, rule, pass, submit, judged and strike. */
public final class RulesTest {
    private static final int LEFT = Make.LEFT;
    private static final int RIGHT = Make.RIGHT;
    private static final int JUMP = Make.JUMP;
    private static final int DASH = Make.DASH;

    public static void main(String[] args) {
        categoriesAreNumberedUpToSix();
        rulesTakeTheirRanges();
        rulesEndWithTen();
        rulesForbidDeeds();
        rulesAskForCoins();
        rulesAllowJumps();
        theLatestRuleHolds();
        ofOneDayTheLastToldHolds();
        rulesAreOfTheirCategory();
        refusedRunsAreCountedAlsoWhenStruck();
        daysPassUpToAThousand();
        submitTakesItsRanges();
        submitTakesWhatComesHome();
        runsAreNumberedUpToForty();
        runsAreJudgedAndStruck();
        Check.end();
    }

    private static void categoriesAreNumberedUpToSix() {
        SplitGate x = Make.archive(2);
        Check.throwsIndex("category(-1)", () -> x.category(-1));
        Check.throwsIndex("category(2)", () -> x.category(2));
        Check.throwsIndex("category(most)", () -> x.category(Integer.MAX_VALUE));
        for (int i = 0; i < 6; i++) {
            Check.due("category() " + i, x.category(i % 2), i);
        }
        Check.throwsState("category() of 6", () -> x.category(0));
        Check.throwsIndex("category(2) of 6", () -> x.category(2));
        Check.throwsIndex("best(6, 0) of 6", () -> x.best(6, 0));
        Check.due("best(5, 0)", x.best(5, 0), -1);
    }

    private static void rulesTakeTheirRanges() {
        SplitGate x = Make.archive(1, 0);
        Check.throwsIndex("rule: category -1", () -> x.rule(-1, 0, 0, 0, 0));
        Check.throwsIndex("rule: category 1", () -> x.rule(1, 0, 0, 0, 0));
        Check.throwsIndex("rule: all wrong", () -> x.rule(1, -1, 8, 33, 501));
        Check.throwsArgument("rule: day -1", () -> x.rule(0, -1, 0, 0, 0));
        Check.throwsArgument("rule: day 1001", () -> x.rule(0, 1001, 0, 0, 0));
        Check.throwsArgument("rule: forbidden -1", () -> x.rule(0, 0, -1, 0, 0));
        Check.throwsArgument("rule: forbidden 8", () -> x.rule(0, 0, 8, 0, 0));
        Check.throwsArgument("rule: coins -1", () -> x.rule(0, 0, 0, -1, 0));
        Check.throwsArgument("rule: coins 33", () -> x.rule(0, 0, 0, 33, 0));
        Check.throwsArgument("rule: jumps -1", () -> x.rule(0, 0, 0, 0, -1));
        Check.throwsArgument("rule: jumps 501", () -> x.rule(0, 0, 0, 0, 501));
        Check.throwsArgument("rule: day most", () -> x.rule(0, Integer.MAX_VALUE, 0, 0, 0));
        Check.throwsArgument("rule: jumps least", () -> x.rule(0, 0, 0, 0, Integer.MIN_VALUE));
        x.submit(0, Make.walk(x, 0, 122), 0);
        Check.due("no rule was told", x.judged(0), 0);
        Check.due("rule: the greatest", x.rule(0, 1000, 7, 32, 500), 0);
        Check.due("rule: the least", x.rule(0, 0, 0, 0, 0), 0);
        Check.due("rule: 32 coins", x.rule(0, 0, 0, 32, 500), 1);
    }

    private static void rulesEndWithTen() {
        SplitGate x = Make.archive(1, 0, 0);
        x.submit(0, Make.walk(x, 0, 122), 0);
        for (int i = 0; i < 10; i++) {
            Check.due("rule " + i, x.rule(0, i, 0, i == 9 ? 0 : 1, 500), 1);
        }
        Check.throwsState("rule 10", () -> x.rule(0, 0, 0, 0, 500));
        Check.throwsArgument("rule 10, forbidden 8", () -> x.rule(0, 0, 8, 0, 0));
        Check.throwsArgument("rule 10, day 1001", () -> x.rule(0, 1001, 0, 0, 0));
        Check.throwsIndex("rule 10, category 2", () -> x.rule(2, 0, 0, 0, 0));
        Check.due("judged behind rule 10", x.judged(0), 1);
        Check.due("rule of the other category", x.rule(1, 0, 0, 0, 0), 0);
    }

    /** An archive with a run by each runner from 0: plain, leftwards, dashing, clipping. */
    private static SplitGate deeds() {
        SplitGate x = Make.archive(2, 0, 1);
        x.column(1, 2, 1, 0);
        int plain = Make.replay(x, 1, RIGHT + JUMP, 100, RIGHT, 100);
        int left = Make.replay(x, 1, LEFT, 1, RIGHT + JUMP, 100, RIGHT, 100);
        int dash = Make.replay(x, 1, RIGHT + DASH, 1, 0, 1, RIGHT + JUMP, 100, RIGHT, 100);
        int clip = Make.replay(x, 1, RIGHT, 5, RIGHT + DASH, 1, RIGHT, 100, RIGHT, 100);
        int[] replays = {plain, left, dash, clip};
        for (int runner = 0; runner < replays.length; runner++) {
            x.submit(runner, replays[runner], 1);
        }
        return x;
    }

    private static void rulesForbidDeeds() {
        SplitGate x = deeds();
        int[] did = {0, 1, 2, 6};
        for (int run = 0; run < did.length; run++) {
            Check.due("used of the run " + run, x.used(run) % 10, did[run]);
            Check.due("ahead of all rules", x.judged(run), 0);
        }
        for (int forbidden = 0; forbidden < 8; forbidden++) {
            int refused = 0;
            for (int deed : did) {
                refused += (deed & forbidden) != 0 ? 1 : 0;
            }
            Check.due("rule: forbidden " + forbidden, x.rule(1, 0, forbidden, 0, 500), refused);
            for (int run = 0; run < did.length; run++) {
                Check.due("judged: forbidden " + forbidden, x.judged(run), (did[run] & forbidden) != 0 ? 1 : 0);
            }
        }
    }

    private static void rulesAskForCoins() {
        SplitGate x = Make.archive(1, 0);
        x.column(0, 3, 0, 1);
        x.column(0, 5, 0, 1);
        x.submit(0, Make.walk(x, 0, 122), 0);
        Check.due("rule: 2 of 2 coins", x.rule(0, 0, 0, 2, 500), 0);
        Check.due("rule: 3 of 2 coins", x.rule(0, 0, 0, 3, 500), 1);
        Check.due("rule: 1 of 2 coins", x.rule(0, 0, 0, 1, 500), 0);
    }

    private static void rulesAllowJumps() {
        SplitGate x = Make.archive(1, 0);
        int replay = Make.replay(x, 0, JUMP, 5, 0, 1, JUMP, 1, 0, 8, JUMP, 20, RIGHT, 100, RIGHT, 22);
        Check.due("used: 2 jumps of 3 presses", x.used(replay), 20);
        x.submit(0, replay, 0);
        Check.due("rule: 2 of 2 jumps", x.rule(0, 0, 0, 0, 2), 0);
        Check.due("rule: 2 of 1 jumps", x.rule(0, 0, 0, 0, 1), 1);
        Check.due("rule: 2 of 3 jumps", x.rule(0, 0, 0, 0, 3), 0);
        Check.due("rule: 2 of 0 jumps", x.rule(0, 0, 0, 0, 0), 1);
    }

    /** Runs without a coin on the days 0, 10, 20 and 30, so that a rule for one coin refuses them. */
    private static SplitGate fourDays() {
        SplitGate x = Make.archive(1, 0, 0);
        int replay = Make.walk(x, 0, 122);
        for (int i = 0; i < 4; i++) {
            x.submit(i, replay, 0);
            x.pass(10);
        }
        return x;
    }

    private static void dueJudged(String what, SplitGate x, int... judged) {
        for (int run = 0; run < judged.length; run++) {
            Check.due(what + ": judged(" + run + ")", x.judged(run), judged[run]);
        }
    }

    private static void theLatestRuleHolds() {
        SplitGate x = fourDays();
        Check.due("rule from 10", x.rule(0, 10, 0, 1, 500), 3);
        dueJudged("rule from 10", x, 0, 1, 1, 1);
        Check.due("rule from 21", x.rule(0, 21, 0, 0, 500), 2);
        dueJudged("rule from 21", x, 0, 1, 1, 0);
        Check.due("rule from 5, told later", x.rule(0, 5, 0, 0, 500), 2);
        dueJudged("rule from 5, told later", x, 0, 1, 1, 0);
        Check.due("rule from 0, told later", x.rule(0, 0, 0, 1, 500), 3);
        dueJudged("rule from 0, told later", x, 1, 1, 1, 0);
        Check.due("rule from 20", x.rule(0, 20, 0, 0, 500), 2);
        dueJudged("rule from 20", x, 1, 1, 0, 0);
        Check.due("rule from 31", x.rule(0, 31, 0, 1, 500), 2);
        Check.due("rule from 1000", x.rule(0, 1000, 0, 1, 500), 2);
        dueJudged("rule from 31", x, 1, 1, 0, 0);
        x.submit(0, 0, 0);
        Check.due("a run behind its rule", x.judged(4), 1);
    }

    private static void ofOneDayTheLastToldHolds() {
        SplitGate x = fourDays();
        Check.due("rule from 10", x.rule(0, 10, 0, 1, 500), 3);
        Check.due("rule from 10, again", x.rule(0, 10, 0, 0, 500), 0);
        Check.due("rule from 0", x.rule(0, 0, 0, 1, 500), 1);
        Check.due("rule from 0, again", x.rule(0, 0, 0, 0, 500), 0);
        Check.due("rule from 10, a third time", x.rule(0, 10, 0, 1, 500), 3);
        dueJudged("rule from 10, a third time", x, 0, 1, 1, 1);
    }

    private static void rulesAreOfTheirCategory() {
        SplitGate x = fourDays();
        Check.due("rule of the other category", x.rule(1, 0, 0, 1, 500), 0);
        dueJudged("rule of the other category", x, 0, 0, 0, 0);
        x.submit(0, 0, 1);
        Check.due("a run of the other category", x.judged(4), 1);
        Check.due("rule of the category", x.rule(0, 0, 0, 1, 500), 4);
    }

    private static void refusedRunsAreCountedAlsoWhenStruck() {
        SplitGate x = fourDays();
        x.strike(2);
        Check.due("rule, with a struck run", x.rule(0, 0, 0, 1, 500), 4);
        dueJudged("refused and struck", x, 1, 1, 3, 1);
        Check.due("rule, allowing all", x.rule(0, 0, 0, 0, 500), 0);
        dueJudged("struck", x, 0, 0, 2, 0);
    }

    private static void daysPassUpToAThousand() {
        SplitGate x = new SplitGate();
        Check.throwsArgument("pass(0)", () -> x.pass(0));
        Check.throwsArgument("pass(-1)", () -> x.pass(-1));
        Check.throwsArgument("pass(101)", () -> x.pass(101));
        Check.throwsArgument("pass(most)", () -> x.pass(Integer.MAX_VALUE));
        Check.due("pass(1)", x.pass(1), 1);
        for (int i = 1; i <= 9; i++) {
            Check.due("pass(100)", x.pass(100), 1 + 100 * i);
        }
        Check.throwsState("pass(100) from 901", () -> x.pass(100));
        Check.due("pass(98) from 901", x.pass(98), 999);
        Check.throwsState("pass(2) from 999", () -> x.pass(2));
        Check.due("pass(1) from 999", x.pass(1), 1000);
        Check.throwsState("pass(1) from 1000", () -> x.pass(1));
        Check.throwsArgument("pass(101) from 1000", () -> x.pass(101));
        Check.throwsArgument("pass(0) from 1000", () -> x.pass(0));
    }

    private static void submitTakesItsRanges() {
        SplitGate x = Make.archive(2, 0, 1);
        Make.walk(x, 0, 122);
        x.replay(0);
        Check.throwsIndex("submit: runner -1", () -> x.submit(-1, 0, 0));
        Check.throwsIndex("submit: runner 8", () -> x.submit(8, 0, 0));
        Check.throwsIndex("submit: replay -1", () -> x.submit(0, -1, 0));
        Check.throwsIndex("submit: replay 2", () -> x.submit(0, 2, 0));
        Check.throwsIndex("submit: category -1", () -> x.submit(0, 0, -1));
        Check.throwsIndex("submit: category 2", () -> x.submit(0, 0, 2));
        Check.throwsIndex("submit: runner 8, other level", () -> x.submit(8, 0, 1));
        Check.throwsArgument("submit: other level", () -> x.submit(0, 0, 1));
        Check.throwsArgument("submit: other level, not home", () -> x.submit(0, 1, 1));
        Check.throwsState("submit: not home", () -> x.submit(0, 1, 0));
        Check.throwsIndex("no run was made", () -> x.judged(0));
        Check.due("submit by the runner 0", x.submit(0, 0, 0), 0);
        Check.due("submit by the runner 7", x.submit(7, 0, 0), 1);
        Check.due("best(0, 7)", x.best(0, 7), 1);
    }

    private static void submitTakesWhatComesHome() {
        SplitGate x = Make.archive(1, 0);
        x.column(0, 31, 0, 2);
        int died = Make.walk(x, 0, 122);
        Check.due("result: died", x.result(died), 1222);
        Check.throwsState("submit: died", () -> x.submit(0, died, 0));
        int home = Make.replay(x, 0, RIGHT, 100, RIGHT, 20, RIGHT + JUMP, 1);
        Check.throwsState("submit: not yet home", () -> x.submit(0, home, 0));
        x.input(home, RIGHT, 1);
        Check.due("submit: home", x.submit(0, home, 0), 0);
        Check.due("submit: once more", x.submit(0, home, 0), 1);
    }

    private static void runsAreNumberedUpToForty() {
        SplitGate x = Make.archive(2, 0, 1);
        int replay = Make.walk(x, 0, 122);
        int unready = x.replay(0);
        for (int i = 0; i < 40; i++) {
            Check.due("submit " + i, x.submit(i % 8, replay, 0), i);
        }
        Check.throwsState("submit 40", () -> x.submit(0, replay, 0));
        Check.throwsState("submit 40, not home", () -> x.submit(0, unready, 0));
        Check.throwsArgument("submit 40, other level", () -> x.submit(0, replay, 1));
        Check.throwsIndex("submit 40, runner 8", () -> x.submit(8, replay, 0));
        Check.throwsIndex("judged(40)", () -> x.judged(40));
        int other = Make.walk(x, 0, 123);
        Check.throwsState("submit 40, another replay", () -> x.submit(0, other, 0));
        Check.due("input behind that", x.input(other, 0, 1), 124);
    }

    private static void runsAreJudgedAndStruck() {
        SplitGate x = Make.archive(1, 0);
        int replay = Make.walk(x, 0, 122);
        x.submit(0, replay, 0);
        x.submit(0, replay, 0);
        int[] none = {-1, 2, 40, Integer.MIN_VALUE, Integer.MAX_VALUE};
        for (int run : none) {
            Check.throwsIndex("judged(" + run + ")", () -> x.judged(run));
            Check.throwsIndex("strike(" + run + ")", () -> x.strike(run));
        }
        Check.due("strike(1)", x.strike(1), true);
        dueJudged("struck", x, 0, 2);
        Check.due("strike(1) again", x.strike(1), false);
        dueJudged("restored", x, 0, 0);
        x.rule(0, 0, 0, 1, 500);
        dueJudged("refused", x, 1, 1);
        Check.due("strike(0) of a refused run", x.strike(0), true);
        dueJudged("refused and struck", x, 3, 1);
        Check.due("strike(0) again", x.strike(0), false);
        dueJudged("refused and restored", x, 1, 1);
    }
}
