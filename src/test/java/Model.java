import java.util.ArrayList;
import java.util.Comparator;
import java.util.List;

/** A second reading of the document: it keeps what was told and answers each call from the beginning. */
final class Model {
    private record Piece(int buttons, int ticks) { }

    private record Told(int category, int day, int forbidden, int coins, int jumps) { }

    private record Submitted(int runner, int replay, int category, int day) { }

    private record Tried(int ticks, int end, int coins, int jumps, int did, int place, int height) { }

    private final List<int[][]> levels = new ArrayList<>();
    private final List<Integer> levelOfReplay = new ArrayList<>();
    private final List<List<Piece>> pieces = new ArrayList<>();
    private final List<Integer> levelOfCategory = new ArrayList<>();
    private final List<Told> rules = new ArrayList<>();
    private final List<Submitted> runs = new ArrayList<>();
    private final List<Integer> strikes = new ArrayList<>();
    private final List<int[]> offers = new ArrayList<>();
    private final List<int[]> gifts = new ArrayList<>();
    private int day = 0;

    /** Runs what stands behind the call's name, as SplitGate would; a boolean is 1 or 0, nothing is 0. */
    int call(String name, int[] a) {
        switch (name) {
            case "level": return level();
            case "column": return column(a[0], a[1], a[2], a[3]);
            case "replay": return replay(a[0]);
            case "input": return input(a[0], a[1], a[2]);
            case "result": index(a[0], pieces.size()); return 10 * run(a[0], 500).ticks + run(a[0], 500).end;
            case "used": return used(a[0]);
            case "where": return where(a[0], a[1]);
            case "category": return category(a[0]);
            case "rule": return rule(a[0], a[1], a[2], a[3], a[4]);
            case "pass": return pass(a[0]);
            case "submit": return submit(a[0], a[1], a[2]);
            case "judged": index(a[0], runs.size()); return (refused(a[0]) ? 1 : 0) + (struck(a[0]) ? 2 : 0);
            case "strike": index(a[0], runs.size()); strikes.add(a[0]); return struck(a[0]) ? 1 : 0;
            case "best":
            case "bestAnew": pair(a[0], a[1]); return best(a[0], a[1], -1);
            case "place": pair(a[0], a[1]); return place(a[0], a[1], -1);
            case "at": return at(a[0], a[1]);
            case "placeWithout": index(a[0], runs.size());
                return place(runs.get(a[0]).category, runs.get(a[0]).runner, a[0]);
            case "estimate": pair(a[0], a[1]); return estimate(a[0], a[1]);
            case "offer": return offer(a[0], a[1]);
            case "gift": return gift(a[0], a[1]);
            case "plan": return plan(a[0]);
            default: throw new UnsupportedOperationException(name);
        }
    }

    private static void index(int number, int size) {
        if (number < 0 || number >= size) {
            throw new IndexOutOfBoundsException();
        }
    }

    private static void argument(int number, int least, int most) {
        if (number < least || number > most) {
            throw new IllegalArgumentException();
        }
    }

    private static void state(boolean possible) {
        if (!possible) {
            throw new IllegalStateException();
        }
    }

    private void pair(int category, int runner) {
        index(category, levelOfCategory.size());
        index(runner, 8);
    }

    private int level() {
        state(levels.size() < 3);
        levels.add(new int[32][2]);
        return levels.size() - 1;
    }

    private int column(int level, int column, int height, int item) {
        index(level, levels.size());
        index(column, 32);
        argument(height, -1, 6);
        argument(item, 0, 2);
        state(!levelOfReplay.contains(level));
        levels.get(level)[column] = new int[] {height, item};
        return 0;
    }

    private int replay(int level) {
        index(level, levels.size());
        state(pieces.size() < 20);
        levelOfReplay.add(level);
        pieces.add(new ArrayList<>());
        return pieces.size() - 1;
    }

    private int input(int replay, int buttons, int ticks) {
        index(replay, pieces.size());
        argument(buttons, 0, 15);
        argument(ticks, 1, 100);
        int sum = ticks;
        for (Piece piece : pieces.get(replay)) {
            sum += piece.ticks;
        }
        state(runs.stream().noneMatch(r -> r.replay == replay) && pieces.get(replay).size() < 20 && sum <= 500);
        pieces.get(replay).add(new Piece(buttons, ticks));
        return sum;
    }

    /** The ticks as the Terms tell them, step by step, up to a tick. */
    private Tried run(int replay, int lastTick) {
        List<Integer> told = new ArrayList<>();
        for (Piece piece : pieces.get(replay)) {
            for (int i = 0; i < piece.ticks; i++) {
                told.add(piece.buttons);
            }
        }
        int[][] columns = levels.get(levelOfReplay.get(replay));
        boolean[] taken = new boolean[32];
        int place = 8;
        int height = columns[0][0] == -1 ? 0 : 16 * columns[0][0];
        int speed = 0;
        int coins = 0;
        int jumps = 0;
        boolean stands = true;
        boolean canDash = true;
        boolean left = false;
        boolean dashed = false;
        boolean clipped = false;
        int end = 0;
        int tick = 0;
        while (tick < told.size() && tick < lastTick && end == 0) {
            int now = told.get(tick);
            int before = tick == 0 ? 0 : told.get(tick - 1);
            // 1
            int way = (now % 4 == 2) ? 4 : (now % 4 == 1) ? -4 : 0;
            if (now >= 8 && before < 8 && way != 0 && canDash) {
                way = 5 * way;
                canDash = false;
                dashed = true;
            }
            if (way < 0) {
                left = true;
            }
            // 2
            if (now / 4 % 2 == 1 && before / 4 % 2 == 0 && stands) {
                speed = 14;
                stands = false;
                jumps++;
            }
            // 3
            int target = place + way;
            if (target < 0) {
                target = 0;
            }
            if (target > 511) {
                target = 511;
            }
            int[] there = columns[target / 16];
            if (there[0] == -1 || 16 * there[0] <= height) {
                for (int c = 0; c < 32; c++) {
                    boolean between = (place / 16 < c && c < target / 16) || (target / 16 < c && c < place / 16);
                    if (between && columns[c][0] != -1 && 16 * columns[c][0] > height) {
                        clipped = true;
                    }
                }
                place = target;
            }
            // 4
            int[] here = columns[place / 16];
            if (stands && (here[0] == -1 || 16 * here[0] < height)) {
                stands = false;
                speed = 0;
            }
            // 5
            if (!stands) {
                speed = speed - 2 < -14 ? -14 : speed - 2;
                height = height + speed;
                if (here[0] != -1 && speed <= 0 && height <= 16 * here[0]) {
                    stands = true;
                    height = 16 * here[0];
                    speed = 0;
                }
            }
            // 6
            canDash = canDash || stands;
            // 7
            if (here[1] == 1 && !taken[place / 16] && height <= 24 + (here[0] == -1 ? 0 : 16 * here[0])) {
                taken[place / 16] = true;
                coins++;
            }
            // 8
            if (height < -32 || (stands && here[1] == 2)) {
                end = 2;
            } else if (place / 16 == 31) {
                end = 1;
            }
            tick++;
        }
        int did = (left ? 1 : 0) + (dashed ? 2 : 0) + (clipped ? 4 : 0);
        return new Tried(tick, end, coins, jumps, did, place, height);
    }

    private int used(int replay) {
        index(replay, pieces.size());
        Tried tried = run(replay, 500);
        return 10000 * tried.coins + 10 * tried.jumps + tried.did;
    }

    private int where(int replay, int tick) {
        index(replay, pieces.size());
        index(tick, run(replay, 500).ticks + 1);
        Tried tried = run(replay, tick);
        return 1000 * tried.height + tried.place;
    }

    private int category(int level) {
        index(level, levels.size());
        state(levelOfCategory.size() < 6);
        levelOfCategory.add(level);
        return levelOfCategory.size() - 1;
    }

    private int rule(int category, int from, int forbidden, int coins, int jumps) {
        index(category, levelOfCategory.size());
        argument(from, 0, 1000);
        argument(forbidden, 0, 7);
        argument(coins, 0, 32);
        argument(jumps, 0, 500);
        state(rules.stream().filter(r -> r.category == category).count() < 10);
        rules.add(new Told(category, from, forbidden, coins, jumps));
        int refused = 0;
        for (int run = 0; run < runs.size(); run++) {
            refused += runs.get(run).category == category && refused(run) ? 1 : 0;
        }
        return refused;
    }

    private int pass(int days) {
        argument(days, 1, 100);
        state(day + days <= 1000);
        day += days;
        return day;
    }

    private int submit(int runner, int replay, int category) {
        index(runner, 8);
        index(replay, pieces.size());
        index(category, levelOfCategory.size());
        argument(levelOfReplay.get(replay) - levelOfCategory.get(category), 0, 0);
        state(run(replay, 500).end == 1 && runs.size() < 40);
        runs.add(new Submitted(runner, replay, category, day));
        return runs.size() - 1;
    }

    private boolean refused(int number) {
        Submitted run = runs.get(number);
        for (int on = run.day; on >= 0; on--) {
            for (int i = rules.size() - 1; i >= 0; i--) {
                Told rule = rules.get(i);
                if (rule.category == run.category && rule.day == on) {
                    Tried tried = run(run.replay, 500);
                    return (tried.did & rule.forbidden) != 0 || tried.coins < rule.coins || tried.jumps > rule.jumps;
                }
            }
        }
        return false;
    }

    private boolean struck(int run) {
        return strikes.stream().filter(s -> s == run).count() % 2 == 1;
    }

    private int ticks(int run) {
        return run(runs.get(run).replay, 500).ticks;
    }

    private Comparator<Integer> order() {
        return Comparator.<Integer>comparingInt(r -> ticks(r)).thenComparingInt(r -> runs.get(r).day)
            .thenComparingInt(r -> r);
    }

    private List<Integer> counting(int category, int runner, int without) {
        List<Integer> found = new ArrayList<>();
        for (int i = 0; i < runs.size(); i++) {
            Submitted run = runs.get(i);
            if (run.category == category && run.runner == runner && i != without && !struck(i) && !refused(i)) {
                found.add(i);
            }
        }
        return found;
    }

    private int best(int category, int runner, int without) {
        List<Integer> found = counting(category, runner, without);
        found.sort(order());
        return found.isEmpty() ? -1 : found.get(0);
    }

    private List<Integer> board(int category, int without) {
        List<Integer> board = new ArrayList<>();
        for (int runner = 0; runner < 8; runner++) {
            int best = best(category, runner, without);
            if (best >= 0) {
                board.add(best);
            }
        }
        board.sort(order());
        return board;
    }

    private int place(int category, int runner, int without) {
        int own = best(category, runner, without);
        if (own < 0) {
            return -1;
        }
        int place = 1;
        for (int run : board(category, without)) {
            place += ticks(run) < ticks(own) ? 1 : 0;
        }
        return place;
    }

    private int at(int category, int number) {
        index(category, levelOfCategory.size());
        List<Integer> board = board(category, -1);
        index(number, board.size());
        return board.get(number);
    }

    private int estimate(int category, int runner) {
        List<Integer> found = counting(category, runner, -1);
        found.sort(Comparator.<Integer>comparingInt(r -> -runs.get(r).day).thenComparingInt(r -> -r));
        int count = Math.min(3, found.size());
        if (count == 0) {
            return -1;
        }
        int sum = 0;
        for (int run : found.subList(0, count)) {
            sum += ticks(run);
        }
        int part = sum * 11 / (10 * count);
        return part * 10 * count == sum * 11 ? part : part + 1;
    }

    private int offer(int category, int runner) {
        pair(category, runner);
        state(best(category, runner, -1) >= 0 && offers.size() < 10
            && offers.stream().noneMatch(o -> o[0] == category && o[1] == runner));
        offers.add(new int[] {category, runner});
        return offers.size() - 1;
    }

    private boolean open(int offer) {
        return best(offers.get(offer)[0], offers.get(offer)[1], -1) >= 0;
    }

    private int given(int offer) {
        return gifts.stream().filter(g -> g[0] == offer).mapToInt(g -> g[1]).sum();
    }

    private int gift(int offer, int amount) {
        index(offer, offers.size());
        argument(amount, 1, 1000);
        state(open(offer));
        gifts.add(new int[] {offer, amount});
        return given(offer);
    }

    private int plan(int room) {
        argument(room, 0, 10000);
        List<Integer> open = new ArrayList<>();
        for (int offer = 0; offer < offers.size(); offer++) {
            if (open(offer)) {
                open.add(offer);
            }
        }
        int[] best = {0, 0, 0};
        seek(open, 0, new int[] {0, 0, 0}, room, best);
        return best[2];
    }

    /** Sets are told as the sum of gifts, the sum of estimates and the number of the set. */
    private void seek(List<Integer> open, int from, int[] set, int room, int[] best) {
        if (set[1] > room) {
            return;
        }
        boolean same = set[0] == best[0] && set[1] == best[1];
        if (set[0] > best[0] || (set[0] == best[0] && set[1] < best[1]) || (same && set[2] < best[2])) {
            System.arraycopy(set, 0, best, 0, 3);
        }
        for (int i = from; i < open.size(); i++) {
            int offer = open.get(i);
            int cost = estimate(offers.get(offer)[0], offers.get(offer)[1]);
            seek(open, i + 1, new int[] {set[0] + given(offer), set[1] + cost, set[2] + (1 << offer)}, room, best);
        }
    }
}
