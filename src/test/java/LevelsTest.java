/** Promises 1 to 3: a new object, level and column. */
public final class LevelsTest {
    public static void main(String[] args) {
        aNewObjectIsEmpty();
        levelsAreNumberedUpToThree();
        columnsTakeTheirRanges();
        columnsAreFixedByAReplay();
        aRefusedColumnChangesNothing();
        objectsAreApart();
        Check.end();
    }

    private static void aNewObjectIsEmpty() {
        SplitGate x = new SplitGate();
        Check.throwsIndex("new: column", () -> x.column(0, 0, 0, 0));
        Check.throwsIndex("new: replay", () -> x.replay(0));
        Check.throwsIndex("new: input", () -> x.input(0, 0, 1));
        Check.throwsIndex("new: result", () -> x.result(0));
        Check.throwsIndex("new: used", () -> x.used(0));
        Check.throwsIndex("new: where", () -> x.where(0, 0));
        Check.throwsIndex("new: category", () -> x.category(0));
        Check.throwsIndex("new: rule", () -> x.rule(0, 0, 0, 0, 0));
        Check.throwsIndex("new: submit", () -> x.submit(0, 0, 0));
        Check.throwsIndex("new: judged", () -> x.judged(0));
        Check.throwsIndex("new: strike", () -> x.strike(0));
        Check.throwsIndex("new: best", () -> x.best(0, 0));
        Check.throwsIndex("new: bestAnew", () -> x.bestAnew(0, 0));
        Check.throwsIndex("new: place", () -> x.place(0, 0));
        Check.throwsIndex("new: at", () -> x.at(0, 0));
        Check.throwsIndex("new: placeWithout", () -> x.placeWithout(0));
        Check.throwsIndex("new: estimate", () -> x.estimate(0, 0));
        Check.throwsIndex("new: offer", () -> x.offer(0, 0));
        Check.throwsIndex("new: gift", () -> x.gift(0, 1));
        Check.due("new: plan(10000)", x.plan(10000), 0);
        Check.due("new: pass(1) from the day 0", x.pass(1), 1);
        Check.due("new: level()", x.level(), 0);
    }

    private static void levelsAreNumberedUpToThree() {
        SplitGate x = new SplitGate();
        Check.due("level() 1st", x.level(), 0);
        Check.due("level() 2nd", x.level(), 1);
        Check.due("level() 3rd", x.level(), 2);
        Check.throwsState("level() 4th", () -> x.level());
        Check.throwsState("level() 5th", () -> x.level());
        Check.throwsIndex("replay(3) behind that", () -> x.replay(3));
        Check.due("replay(2)", x.replay(2), 0);
    }

    private static void columnsTakeTheirRanges() {
        SplitGate x = new SplitGate();
        x.level();
        Check.throwsIndex("column: level -1", () -> x.column(-1, 0, 0, 0));
        Check.throwsIndex("column: level 1", () -> x.column(1, 0, 0, 0));
        Check.throwsIndex("column: level least", () -> x.column(Integer.MIN_VALUE, 0, 0, 0));
        Check.throwsIndex("column: level most", () -> x.column(Integer.MAX_VALUE, 0, 0, 0));
        Check.throwsIndex("column: column -1", () -> x.column(0, -1, 0, 0));
        Check.throwsIndex("column: column 32", () -> x.column(0, 32, 0, 0));
        Check.throwsIndex("column: column least", () -> x.column(0, Integer.MIN_VALUE, 0, 0));
        Check.throwsArgument("column: height -2", () -> x.column(0, 0, -2, 0));
        Check.throwsArgument("column: height 7", () -> x.column(0, 0, 7, 0));
        Check.throwsArgument("column: item -1", () -> x.column(0, 0, 0, -1));
        Check.throwsArgument("column: item 3", () -> x.column(0, 0, 0, 3));
        Check.throwsIndex("column: all wrong", () -> x.column(0, 32, 7, 3));
        Check.throwsIndex("column: level and height wrong", () -> x.column(1, 0, 7, 0));
        x.column(0, 0, -1, 0);
        x.column(0, 31, 6, 2);
        x.column(0, 0, 6, 1);
        x.replay(0);
        Check.due("where at the height 6", x.where(0, 0), 96008);
    }

    private static void columnsAreFixedByAReplay() {
        SplitGate x = new SplitGate();
        x.level();
        x.level();
        x.replay(0);
        Check.throwsState("column behind a replay", () -> x.column(0, 0, 1, 0));
        Check.throwsState("column behind a replay, unchanged", () -> x.column(0, 0, 0, 0));
        Check.throwsArgument("column behind a replay, height 7", () -> x.column(0, 0, 7, 0));
        Check.throwsArgument("column behind a replay, item 3", () -> x.column(0, 0, 0, 3));
        Check.throwsIndex("column behind a replay, column 32", () -> x.column(0, 32, 0, 0));
        x.column(1, 0, 2, 0);
        x.replay(1);
        Check.due("where in the level without change", x.where(0, 0), 8);
        Check.due("where in the other level", x.where(1, 0), 32008);
    }

    private static void aRefusedColumnChangesNothing() {
        SplitGate x = new SplitGate();
        x.level();
        x.column(0, 0, 3, 1);
        Check.throwsArgument("item 3", () -> x.column(0, 0, 1, 3));
        Check.throwsArgument("height 7", () -> x.column(0, 0, 7, 0));
        x.replay(0);
        x.input(0, 0, 1);
        Check.due("where: still 3", x.where(0, 1), 48008);
        Check.due("used: still the coin", x.used(0), 10000);
    }

    private static void objectsAreApart() {
        SplitGate x = new SplitGate();
        SplitGate y = new SplitGate();
        x.level();
        x.column(0, 0, 5, 0);
        Check.due("the other object's level()", y.level(), 0);
        y.replay(0);
        Check.due("the other object's where", y.where(0, 0), 8);
    }
}
