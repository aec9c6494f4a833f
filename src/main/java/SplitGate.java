import java.util.ArrayList;

/** An archive of speedruns: levels, replays, judged runs, boards, and a marathon planned by gifts. */
public final class SplitGate {
    private static final int LEVELS = 3;
    private static final int COLUMNS = 32;
    private static final int GAP = -1;
    private static final int HIGHEST = 6;
    private static final int COIN = 1;
    private static final int SPIKE = 2;

    private static final int REPLAYS = 20;
    private static final int PIECES = 20;
    private static final int ALL_BUTTONS = 15;
    private static final int LONGEST_PIECE = 100;
    private static final int LONGEST_REPLAY = 500;

    private static final int CATEGORIES = 6;
    private static final int RULES = 10;
    private static final int LAST_DAY = 1000;
    private static final int LONGEST_PASS = 100;
    private static final int ALL_DEEDS = 7;
    private static final int MOST_JUMPS = 500;
    private static final int RUNS = 40;
    private static final int RUNNERS = 8;

    private static final int ESTIMATED_RUNS = 3;
    private static final int OFFERS = 10;
    private static final int SETS_OF_OFFERS = 1 << OFFERS;
    private static final int LARGEST_GIFT = 1000;
    private static final int LARGEST_ROOM = 10000;
    private static final int NONE = -1;

    private final ArrayList<Level> levels = new ArrayList<Level>();
    private final ArrayList<Replay> replays = new ArrayList<Replay>();
    private final ArrayList<Category> categories = new ArrayList<Category>();
    private final ArrayList<Run> runs = new ArrayList<Run>();
    private final ArrayList<Offer> offers = new ArrayList<Offer>();
    private int day;

    /** Kept for all replays that are run once more, so that no call makes a hero of its own. */
    private final Hero heroAgain = new Hero();

    /** For each set of offers, while a plan is sought: its estimates together, and its gifts. */
    private final int[] costs = new int[SETS_OF_OFFERS];
    private final int[] gains = new int[SETS_OF_OFFERS];

    /** Creates an empty archive, on the day 0. */
    public SplitGate() {
        day = 0;
    }

    // ---- levels and replays

    public int level() throws IllegalStateException {
        if (levels.size() >= LEVELS) {
            throw new IllegalStateException("no more levels");
        }
        levels.add(new Level());
        return levels.size() - 1;
    }

    public void column(int level, int column, int height, int item)
            throws IndexOutOfBoundsException, IllegalArgumentException, IllegalStateException {
        Level found = levelOf(level);
        if (!isWithin(column, 0, COLUMNS - 1)) {
            throw new IndexOutOfBoundsException("no such column");
        }
        requireArgument(isWithin(height, GAP, HIGHEST));
        requireArgument(isWithin(item, 0, SPIKE));
        if (hasReplay(found)) {
            throw new IllegalStateException("there is a replay for the level");
        }
        found.change(column, height, item);
    }

    public int replay(int level) throws IndexOutOfBoundsException, IllegalStateException {
        Level found = levelOf(level);
        if (replays.size() >= REPLAYS) {
            throw new IllegalStateException("no more replays");
        }
        replays.add(new Replay(found));
        return replays.size() - 1;
    }

    public int input(int replay, int buttons, int ticks)
            throws IndexOutOfBoundsException, IllegalArgumentException, IllegalStateException {
        Replay found = replayOf(replay);
        requireArgument(isWithin(buttons, 0, ALL_BUTTONS));
        requireArgument(isWithin(ticks, 1, LONGEST_PIECE));
        if (found.submitted || !found.hasRoomFor(ticks)) {
            throw new IllegalStateException("the replay takes no such piece");
        }
        found.addPiece(buttons, ticks);
        return found.length;
    }

    public int result(int replay) throws IndexOutOfBoundsException {
        Hero hero = replayOf(replay).hero;
        return 10 * hero.ticks + hero.end;
    }

    public int used(int replay) throws IndexOutOfBoundsException {
        Hero hero = replayOf(replay).hero;
        return 10000 * hero.coinCount + 10 * hero.jumps + hero.deeds;
    }

    public int where(int replay, int tick) throws IndexOutOfBoundsException {
        Replay found = replayOf(replay);
        if (!isWithin(tick, 0, found.hero.ticks)) {
            throw new IndexOutOfBoundsException("no such tick");
        }
        found.runAgain(heroAgain, tick);
        return 1000 * heroAgain.height + heroAgain.spot;
    }

    private static boolean isWithin(int value, int least, int most) {
        return value >= least && value <= most;
    }

    private static void requireArgument(boolean inRange) {
        if (!inRange) {
            throw new IllegalArgumentException("out of range");
        }
    }

    private Level levelOf(int number) {
        if (!isWithin(number, 0, levels.size() - 1)) {
            throw new IndexOutOfBoundsException("no such level");
        }
        return levels.get(number);
    }

    private Replay replayOf(int number) {
        if (!isWithin(number, 0, replays.size() - 1)) {
            throw new IndexOutOfBoundsException("no such replay");
        }
        return replays.get(number);
    }

    private boolean hasReplay(Level level) {
        for (int i = 0; i < replays.size(); i++) {
            if (replays.get(i).level == level) {
                return true;
            }
        }
        return false;
    }

    // ---- rules and runs

    public int category(int level) throws IndexOutOfBoundsException, IllegalStateException {
        Level found = levelOf(level);
        if (categories.size() >= CATEGORIES) {
            throw new IllegalStateException("no more categories");
        }
        categories.add(new Category(found));
        return categories.size() - 1;
    }

    public int rule(int category, int day, int forbidden, int coins, int jumps)
            throws IndexOutOfBoundsException, IllegalArgumentException, IllegalStateException {
        Category found = categoryOf(category);
        requireArgument(isWithin(day, 0, LAST_DAY));
        requireArgument(isWithin(forbidden, 0, ALL_DEEDS));
        requireArgument(isWithin(coins, 0, COLUMNS));
        requireArgument(isWithin(jumps, 0, MOST_JUMPS));
        if (found.rules.size() >= RULES) {
            throw new IllegalStateException("no more rules");
        }
        found.rules.add(new Rule(day, forbidden, coins, jumps));
        return countRefused(found);
    }

    public int pass(int days) throws IllegalArgumentException, IllegalStateException {
        requireArgument(isWithin(days, 1, LONGEST_PASS));
        if (day + days > LAST_DAY) {
            throw new IllegalStateException("no more days");
        }
        day += days;
        return day;
    }

    public int submit(int runner, int replay, int category)
            throws IndexOutOfBoundsException, IllegalArgumentException, IllegalStateException {
        requireRunner(runner);
        Replay foundReplay = replayOf(replay);
        Category foundCategory = categoryOf(category);
        if (foundReplay.level != foundCategory.level) {
            throw new IllegalArgumentException("replay and category are for different levels");
        }
        if (!foundReplay.hero.isHome() || runs.size() >= RUNS) {
            throw new IllegalStateException("not home, or no more runs");
        }
        foundReplay.submitted = true;
        int number = runs.size();
        runs.add(new Run(number, runner, foundReplay, foundCategory, day));
        return number;
    }

    public int judged(int run) throws IndexOutOfBoundsException {
        Run found = runOf(run);
        int refused = isRefused(found) ? 1 : 0;
        int struck = found.struck ? 2 : 0;
        return refused + struck;
    }

    public boolean strike(int run) throws IndexOutOfBoundsException {
        Run found = runOf(run);
        found.struck = !found.struck;
        return found.struck;
    }

    private Category categoryOf(int number) {
        if (!isWithin(number, 0, categories.size() - 1)) {
            throw new IndexOutOfBoundsException("no such category");
        }
        return categories.get(number);
    }

    private Run runOf(int number) {
        if (!isWithin(number, 0, runs.size() - 1)) {
            throw new IndexOutOfBoundsException("no such run");
        }
        return runs.get(number);
    }

    private static void requireRunner(int runner) {
        if (!isWithin(runner, 0, RUNNERS - 1)) {
            throw new IndexOutOfBoundsException("no such runner");
        }
    }

    private static boolean isRefused(Run run) {
        return run.category.refuses(run.day, run.replay.hero);
    }

    private static boolean counts(Run run) {
        return !run.struck && !isRefused(run);
    }

    private int countRefused(Category category) {
        int refused = 0;
        for (int i = 0; i < runs.size(); i++) {
            Run run = runs.get(i);
            if (run.category == category && isRefused(run)) {
                refused++;
            }
        }
        return refused;
    }

    // ---- boards

    public int best(int category, int runner) throws IndexOutOfBoundsException {
        Category found = categoryOf(category);
        requireRunner(runner);
        Run best = bestRun(found, runner, null);
        return best == null ? NONE : best.number;
    }

    public int bestAnew(int category, int runner) throws IndexOutOfBoundsException {
        Category found = categoryOf(category);
        requireRunner(runner);
        int best = NONE;
        int fewest = 0;
        for (int i = 0; i < runs.size(); i++) {
            Run run = runs.get(i);
            if (run.isFor(found, runner) && countsAnew(run) && (best == NONE || heroAgain.ticks < fewest)) {
                best = i;
                fewest = heroAgain.ticks;
            }
        }
        return best;
    }

    public int place(int category, int runner) throws IndexOutOfBoundsException {
        Category found = categoryOf(category);
        requireRunner(runner);
        return placeFor(found, runner, null);
    }

    public int at(int category, int index) throws IndexOutOfBoundsException {
        Category found = categoryOf(category);
        for (int runner = 0; runner < RUNNERS; runner++) {
            Run best = bestRun(found, runner, null);
            if (best != null && countAhead(best) == index) {
                return best.number;
            }
        }
        throw new IndexOutOfBoundsException("the board has not so many runs");
    }

    public int placeWithout(int run) throws IndexOutOfBoundsException {
        Run found = runOf(run);
        return placeFor(found.category, found.runner, found);
    }

    /** The best run of a runner, null if there is none, as if the run 'without' (if not null) was struck. */
    private Run bestRun(Category category, int runner, Run without) {
        Run best = null;
        for (int i = 0; i < runs.size(); i++) {
            Run run = runs.get(i);
            if (run != without && run.isFor(category, runner) && counts(run) && (best == null || run.isAheadOf(best))) {
                best = run;
            }
        }
        return best;
    }

    /** Judges the run by its replay, run once more; if it counts, heroAgain tells its ticks. */
    private boolean countsAnew(Run run) {
        if (run.struck) {
            return false;
        }
        run.replay.runAgain(heroAgain, LONGEST_REPLAY);
        return heroAgain.isHome() && !run.category.refuses(run.day, heroAgain);
    }

    private int placeFor(Category category, int runner, Run without) {
        Run own = bestRun(category, runner, without);
        if (own == null) {
            return NONE;
        }
        int place = 1;
        for (int other = 0; other < RUNNERS; other++) {
            Run best = bestRun(category, other, without);
            if (best != null && best.ticks < own.ticks) {
                place++;
            }
        }
        return place;
    }

    private int countAhead(Run run) {
        int ahead = 0;
        for (int runner = 0; runner < RUNNERS; runner++) {
            Run best = bestRun(run.category, runner, null);
            if (best != null && best.isAheadOf(run)) {
                ahead++;
            }
        }
        return ahead;
    }

    // ---- the marathon

    public int estimate(int category, int runner) throws IndexOutOfBoundsException {
        Category found = categoryOf(category);
        requireRunner(runner);
        return estimateFor(found, runner);
    }

    public int offer(int category, int runner) throws IndexOutOfBoundsException, IllegalStateException {
        Category found = categoryOf(category);
        requireRunner(runner);
        if (bestRun(found, runner, null) == null || hasOffered(found, runner) || offers.size() >= OFFERS) {
            throw new IllegalStateException("no such offer is possible");
        }
        offers.add(new Offer(found, runner));
        return offers.size() - 1;
    }

    public int gift(int offer, int amount)
            throws IndexOutOfBoundsException, IllegalArgumentException, IllegalStateException {
        if (!isWithin(offer, 0, offers.size() - 1)) {
            throw new IndexOutOfBoundsException("no such offer");
        }
        Offer found = offers.get(offer);
        requireArgument(isWithin(amount, 1, LARGEST_GIFT));
        if (bestRun(found.category, found.runner, null) == null) {
            throw new IllegalStateException("the offer is not open");
        }
        found.gifts += amount;
        return found.gifts;
    }

    public int plan(int room) throws IllegalArgumentException {
        requireArgument(isWithin(room, 0, LARGEST_ROOM));
        int sets = fillSets();
        int best = 0;
        for (int set = 1; set < sets && set < SETS_OF_OFFERS; set++) {
            boolean better = gains[set] > gains[best] || (gains[set] == gains[best] && costs[set] < costs[best]);
            if (better && costs[set] <= room) {
                best = set;
            }
        }
        return best;
    }

    private int estimateFor(Category category, int runner) {
        int sum = 0;
        int count = 0;
        // Runs are numbered in the order of their days, so the latest are the last ones.
        for (int i = runs.size() - 1; i >= 0 && count < ESTIMATED_RUNS; i--) {
            Run run = runs.get(i);
            if (run.isFor(category, runner) && counts(run)) {
                sum += run.ticks;
                count++;
            }
        }
        return count == 0 ? NONE : (11 * sum + 10 * count - 1) / (10 * count);
    }

    private boolean hasOffered(Category category, int runner) {
        for (int i = 0; i < offers.size(); i++) {
            Offer offer = offers.get(i);
            if (offer.category == category && offer.runner == runner) {
                return true;
            }
        }
        return false;
    }

    /** Fills costs and gains, each offer doubling the sets so far; returns how many sets there are. */
    private int fillSets() {
        int sets = 1;
        for (int i = 0; i < offers.size() && 2 * sets <= SETS_OF_OFFERS; i++) {
            Offer offer = offers.get(i);
            int cost = costOf(offer);
            for (int rest = 0; rest < sets; rest++) {
                costs[sets + rest] = costs[rest] + cost;
                gains[sets + rest] = gains[rest] + offer.gifts;
            }
            sets *= 2;
        }
        return sets;
    }

    /** The estimate, or more than any room for an offer that is not open. */
    private int costOf(Offer offer) {
        int estimate = estimateFor(offer.category, offer.runner);
        return estimate == NONE ? LARGEST_ROOM + 1 : estimate;
    }

    /** A row of columns. Each look at a column tests its number, and sees a bare gap beyond the row. */
    private static final class Level {
        private static final int STEP = 16;

        private final boolean[] gaps = new boolean[COLUMNS];
        private final int[] floors = new int[COLUMNS];
        private final int[] items = new int[COLUMNS];

        void change(int column, int height, int item) {
            if (column >= 0 && column < COLUMNS) {
                gaps[column] = height == GAP;
                floors[column] = height == GAP ? 0 : STEP * height;
                items[column] = item;
            }
        }

        boolean isGap(int column) {
            return column < 0 || column >= COLUMNS || gaps[column];
        }

        /** The floor of a column, 0 for a gap. */
        int base(int column) {
            return column >= 0 && column < COLUMNS ? floors[column] : 0;
        }

        boolean isFloorAbove(int column, int height) {
            return column >= 0 && column < COLUMNS && !gaps[column] && floors[column] > height;
        }

        boolean hasItem(int column, int item) {
            return column >= 0 && column < COLUMNS && items[column] == item;
        }
    }

    /** The hero of a replay, and what became of it up to its last tick. */
    private static final class Hero {
        private static final int LEFT = 1;
        private static final int RIGHT = 2;
        private static final int JUMP = 4;
        private static final int DASH = 8;
        private static final int WENT_LEFT = 1;
        private static final int DASHED = 2;
        private static final int CLIPPED = 4;
        private static final int HOME = 1;
        private static final int DIED = 2;
        private static final int COLUMN_WIDTH = 16;
        private static final int LAST_SPOT = COLUMNS * COLUMN_WIDTH - 1;
        private static final int COIN_REACH = 24;
        private static final int LOWEST = -32;

        private int spot;
        private int height;
        private int speed;
        private boolean stands;
        private boolean canDash;
        private int buttonsBefore;
        private int coins;
        private int coinCount;
        private int jumps;
        private int deeds;
        private int ticks;
        private int end;

        void start(Level level) {
            spot = 8;
            height = level.base(0);
            speed = 0;
            stands = true;
            canDash = true;
            buttonsBefore = 0;
            coins = 0;
            coinCount = 0;
            jumps = 0;
            deeds = 0;
            ticks = 0;
            end = 0;
        }

        boolean isOver() {
            return end != 0;
        }

        boolean isHome() {
            return end == HOME;
        }

        void tick(Level level, int buttons) {
            int anew = buttons & ~buttonsBefore;
            buttonsBefore = buttons;
            int way = choose(buttons, (anew & DASH) != 0);
            if ((anew & JUMP) != 0 && stands) {
                speed = 14;
                stands = false;
                jumps++;
            }
            go(level, way);
            fall(level);
            if (stands) {
                canDash = true;
            }
            takeCoin(level);
            ticks++;
            finish(level);
        }

        private int columnHere() {
            return spot / COLUMN_WIDTH;
        }

        private int choose(int buttons, boolean dashAnew) {
            int way = 0;
            if ((buttons & RIGHT) != 0) {
                way += 4;
            }
            if ((buttons & LEFT) != 0) {
                way -= 4;
            }
            if (dashAnew && way != 0 && canDash) {
                way *= 5;
                canDash = false;
                deeds |= DASHED;
            }
            if (way < 0) {
                deeds |= WENT_LEFT;
            }
            return way;
        }

        private void go(Level level, int way) {
            int aim = Math.max(0, Math.min(LAST_SPOT, spot + way));
            int from = columnHere();
            int to = aim / COLUMN_WIDTH;
            if (level.isFloorAbove(to, height)) {
                return;
            }
            spot = aim;
            for (int between = Math.min(from, to) + 1; between < Math.max(from, to); between++) {
                if (level.isFloorAbove(between, height)) {
                    deeds |= CLIPPED;
                }
            }
        }

        private void fall(Level level) {
            int column = columnHere();
            boolean gap = level.isGap(column);
            int floor = level.base(column);
            if (stands && (gap || floor < height)) {
                stands = false;
                speed = 0;
            }
            if (!stands) {
                speed = Math.max(-14, speed - 2);
                height += speed;
                if (!gap && speed <= 0 && height <= floor) {
                    height = floor;
                    stands = true;
                    speed = 0;
                }
            }
        }

        private void takeCoin(Level level) {
            int column = columnHere();
            boolean taken = (coins & 1 << column) != 0;
            if (!taken && level.hasItem(column, COIN) && height - level.base(column) <= COIN_REACH) {
                coins |= 1 << column;
                coinCount++;
            }
        }

        private void finish(Level level) {
            if (height < LOWEST || (stands && level.hasItem(columnHere(), SPIKE))) {
                end = DIED;
            } else if (columnHere() == COLUMNS - 1) {
                end = HOME;
            }
        }
    }

    /** The pieces of a replay, and its hero at the end of them. */
    private static final class Replay {
        private final Level level;
        private final int[] buttons = new int[PIECES];
        private final int[] ticks = new int[PIECES];
        private final Hero hero = new Hero();
        private int pieces;
        private int length;
        private boolean submitted;

        Replay(Level level) {
            this.level = level;
            hero.start(level);
        }

        boolean hasRoomFor(int more) {
            return pieces < PIECES && length + more <= LONGEST_REPLAY;
        }

        void addPiece(int pressed, int time) {
            if (pieces >= 0 && pieces < PIECES) {
                buttons[pieces] = pressed;
                ticks[pieces] = time;
                pieces++;
                length += time;
                runPiece(hero, pressed, time);
            }
        }

        /** Runs another hero through the pieces, up to a tick. */
        void runAgain(Hero again, int lastTick) {
            again.start(level);
            for (int i = 0; i < pieces && i < PIECES; i++) {
                runPiece(again, buttons[i], Math.min(ticks[i], lastTick - again.ticks));
            }
        }

        private void runPiece(Hero moved, int pressed, int time) {
            for (int i = 0; i < time && !moved.isOver(); i++) {
                moved.tick(level, pressed);
            }
        }
    }

    /** What is forbidden and asked for from a day on. */
    private static final class Rule {
        private final int day;
        private final int forbidden;
        private final int coins;
        private final int jumps;

        Rule(int day, int forbidden, int coins, int jumps) {
            this.day = day;
            this.forbidden = forbidden;
            this.coins = coins;
            this.jumps = jumps;
        }

        boolean refuses(Hero hero) {
            return (hero.deeds & forbidden) != 0 || hero.coinCount < coins || hero.jumps > jumps;
        }
    }

    /** A category with its rules, in the order in which they were told. */
    private static final class Category {
        private final Level level;
        private final ArrayList<Rule> rules = new ArrayList<Rule>();

        Category(Level level) {
            this.level = level;
        }

        /** The latest rule that is not later than the day decides, of several of one day the last told. */
        boolean refuses(int day, Hero hero) {
            boolean refused = false;
            int since = 0;
            for (int i = 0; i < rules.size(); i++) {
                Rule rule = rules.get(i);
                if (rule.day <= day && rule.day >= since) {
                    since = rule.day;
                    refused = rule.refuses(hero);
                }
            }
            return refused;
        }
    }

    /** A replay that a runner submitted for a category on a day. */
    private static final class Run {
        private final int number;
        private final int runner;
        private final Replay replay;
        private final Category category;
        private final int day;
        private final int ticks;
        private boolean struck;

        Run(int number, int runner, Replay replay, Category category, int day) {
            this.number = number;
            this.runner = runner;
            this.replay = replay;
            this.category = category;
            this.day = day;
            ticks = replay.hero.ticks;
        }

        boolean isFor(Category wanted, int wantedRunner) {
            return category == wanted && runner == wantedRunner;
        }

        /** Runs are numbered in the order of their days, so the lower number is also the earlier day. */
        boolean isAheadOf(Run other) {
            return ticks < other.ticks || (ticks == other.ticks && number < other.number);
        }
    }

    /** A category that a runner offers for the marathon, and what was given for it. */
    private static final class Offer {
        private final Category category;
        private final int runner;
        private int gifts;

        Offer(Category category, int runner) {
            this.category = category;
            this.runner = runner;
        }
    }
}
