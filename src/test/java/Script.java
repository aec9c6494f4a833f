import java.util.ArrayList;
import java.util.Arrays;
import java.util.LinkedHashSet;
import java.util.List;
import java.util.Set;

/**
 * Runs of calls told as text, each for one sentence of the document.
 *
 * <p>A line holds calls with ';' between them: "column 0 31 6 2", or with the answer that is due "replay 0 = 0".
 * Behind '=' stand a number, true, false, or I, A or S for an IndexOutOfBounds-, IllegalArgument- or
 * IllegalStateException; MIN and MAX are the least and the greatest int. The line "new" begins a new object.
 *
 * <p>Each run is also played by the Model, which must answer the same, and each call that is refused must leave
 * the answers of all other calls as they are.
 */
final class Script {
    static final String NEW = "new";

    private static final Set<String> NAMED = new LinkedHashSet<>();
    private static int runs = 0;
    private static int refusals = 0;

    private Script() {
    }

    private record Step(String name, int[] a, boolean isCompared, long due) {
        boolean isRefused() {
            return Calls.isThrown(due);
        }

        String told() {
            return Calls.told(name, a);
        }
    }

    /** Checks a sentence; 'place' tells where it stands: "Terms", or "Promise 7". */
    static void sentence(String place, String sentence, String... lines) {
        NAMED.add(key(place, sentence));
        List<Step> steps = new ArrayList<>();
        for (String line : lines) {
            if (line.equals(NEW)) {
                check(key(place, sentence), steps);
                steps = new ArrayList<>();
            } else {
                addSteps(steps, line);
            }
        }
        check(key(place, sentence), steps);
    }

    static String key(String place, String sentence) {
        return place + ": " + sentence;
    }

    static Set<String> named() {
        return NAMED;
    }

    static String summary() {
        return NAMED.size() + " sentences, " + runs + " runs of calls, " + refusals + " refused calls";
    }

    /** The calls 'line' for all numbers from 'least' to 'most', which stand for the sign #. */
    static String forAll(int least, int most, String line) {
        StringBuilder all = new StringBuilder();
        for (int number = least; number <= most; number++) {
            all.append(number == least ? "" : "; ").append(line.replace("#", Integer.toString(number)));
        }
        return all.toString();
    }

    static String times(int count, String line) {
        return forAll(1, count, line);
    }

    private static void addSteps(List<Step> steps, String line) {
        for (String call : line.split(";")) {
            String[] sides = call.trim().split("\\s*=\\s*");
            String[] words = sides[0].split("\\s+");
            int[] a = new int[words.length - 1];
            for (int i = 0; i < a.length; i++) {
                a[i] = number(words[i + 1]);
            }
            boolean isCompared = sides.length > 1;
            steps.add(new Step(words[0], a, isCompared, isCompared ? due(sides[1]) : 0));
        }
    }

    private static int number(String word) {
        switch (word) {
            case "MIN": return Integer.MIN_VALUE;
            case "MAX": return Integer.MAX_VALUE;
            default: return Integer.parseInt(word);
        }
    }

    private static long due(String word) {
        switch (word) {
            case "I": return Calls.INDEX;
            case "A": return Calls.ARGUMENT;
            case "S": return Calls.STATE;
            case "true": return 1;
            case "false": return 0;
            default: return Integer.parseInt(word);
        }
    }

    private static void check(String key, List<Step> steps) {
        runs++;
        if (steps.size() > Calls.MOST) {
            Check.report(key + ": " + steps.size() + " calls are too many for one object");
            return;
        }
        if (isAsDue(key, steps)) {
            refusalsChangeNothing(key, steps);
        }
    }

    private static boolean isAsDue(String key, List<Step> steps) {
        SplitGate gate = new SplitGate();
        Model model = new Model();
        for (int i = 0; i < steps.size(); i++) {
            Step step = steps.get(i);
            long got = Calls.answer(gate, step.name, step.a);
            long modelled = Calls.answer(model, step.name, step.a);
            long due = step.isCompared ? step.due : modelled;
            if (got != due || modelled != due || (!step.isCompared && Calls.isThrown(got))) {
                Check.report(key + "\n  the call " + (i + 1) + ", " + step.told() + ", answered " + Calls.told(got)
                    + ", due is " + Calls.told(due) + ", the model answers " + Calls.told(modelled));
                return false;
            }
        }
        return true;
    }

    private static void refusalsChangeNothing(String key, List<Step> steps) {
        for (int i = 0; i < steps.size(); i++) {
            if (steps.get(i).isRefused()) {
                refusals++;
                compareAroundRefusal(key, steps, i);
            }
        }
        compareWithoutRefusals(key, steps);
    }

    /** The same questions directly before and behind a refused call. */
    private static void compareAroundRefusal(String key, List<Step> steps, int refused) {
        SplitGate gate = new SplitGate();
        for (Step step : steps.subList(0, refused)) {
            Calls.answer(gate, step.name, step.a);
        }
        int room = (Calls.MOST - refused - 1) / 2;
        List<String> before = new Questions(gate, room).askAll();
        Calls.answer(gate, steps.get(refused).name, steps.get(refused).a);
        List<String> behind = new Questions(gate, room).askAll();
        compare(key + "\n  around the refused " + steps.get(refused).told(), behind, before);
    }

    /** What an object answers later that was asked all calls, and one that was not asked what is refused. */
    private static void compareWithoutRefusals(String key, List<Step> steps) {
        int room = Calls.MOST - steps.size();
        String what = key + "\n  with the refused and the reading calls and without them";
        compare(what, new Questions(played(steps, true), room).askAll(),
            new Questions(played(steps, false), room).askAll());
        compare(what, new Questions(played(steps, true), room).changeAll(),
            new Questions(played(steps, false), room).changeAll());
    }

    private static SplitGate played(List<Step> steps, boolean isWhole) {
        SplitGate gate = new SplitGate();
        for (Step step : steps) {
            if (isWhole || !(step.isRefused() || Questions.isReading(step.name))) {
                Calls.answer(gate, step.name, step.a);
            }
        }
        return gate;
    }

    private static void compare(String what, List<String> got, List<String> due) {
        for (int i = 0; i < got.size() && i < due.size(); i++) {
            if (!got.get(i).equals(due.get(i))) {
                Check.report(what + ": " + got.get(i) + ", due is " + due.get(i));
                return;
            }
        }
        Check.due(what + ": answers", got.size(), due.size());
    }

    /** Asks an object for all that can be seen of it, with at most so many calls. */
    private static final class Questions {
        private static final List<String> READING = Arrays.asList("result", "used", "where", "judged", "best", "bestAnew",
            "place", "at", "placeWithout", "estimate", "plan");

        private final SplitGate gate;
        private final List<String> answers = new ArrayList<>();
        private int room;

        Questions(SplitGate gate, int room) {
            this.gate = gate;
            this.room = room;
        }

        static boolean isReading(String name) {
            return READING.contains(name);
        }

        /** The answer; an exception, too, when there is no more room, so that every loop over numbers ends. */
        private long ask(String name, int... a) {
            if (room <= 0) {
                return Calls.INDEX;
            }
            room--;
            long answer = Calls.answer(gate, name, a);
            answers.add(Calls.told(name, a) + " answers " + Calls.told(answer));
            return answer;
        }

        List<String> askAll() {
            askPlans();
            for (int run = 0; !Calls.isThrown(ask("judged", run)); run++) {
                ask("placeWithout", run);
            }
            for (int category = 0; !Calls.isThrown(ask("best", category, 0)); category++) {
                askBoard(category);
            }
            for (int replay = 0; askReplay(replay); replay++) {
                ask("where", replay, 0);
            }
            return answers;
        }

        private void askPlans() {
            for (int room : new int[] {0, 143, 300, 10000}) {
                ask("plan", room);
            }
        }

        private void askBoard(int category) {
            for (int runner = 0; runner < 8; runner++) {
                if (ask("best", category, runner) != -1) {
                    ask("bestAnew", category, runner);
                    ask("place", category, runner);
                    ask("estimate", category, runner);
                }
            }
            for (int index = 0; !Calls.isThrown(ask("at", category, index)); index++) {
                continue;
            }
        }

        private boolean askReplay(int replay) {
            long result = ask("result", replay);
            if (Calls.isThrown(result)) {
                return false;
            }
            int ticks = (int) result / 10;
            ask("used", replay);
            ask("where", replay, ticks);
            ask("where", replay, ticks / 2);
            return true;
        }

        /** Asks for changes, so that what can not be read is seen by what follows from it. */
        List<String> changeAll() {
            ask("pass", 1);
            for (int replay = 0; !Calls.isThrown(ask("result", replay)); replay++) {
                ask("submit", 7, replay, 0);
                ask("input", replay, 6, 1);
                askReplay(replay);
            }
            changeLevels();
            for (int offer = 0; offer < 3; offer++) {
                ask("gift", offer, 3);
            }
            for (int run = 0; !Calls.isThrown(ask("strike", run)); run++) {
                ask("strike", run);
            }
            for (int category = 0; !Calls.isThrown(ask("best", category, 7)); category++) {
                ask("offer", category, 0);
                ask("offer", category, 7);
                askPlans();
                ask("rule", category, 1, 6, 0, 1);
                askBoard(category);
                ask("rule", category, 0, 0, 0, 500);
            }
            ask("level");
            ask("category", 0);
            return answers;
        }

        private void changeLevels() {
            for (int level = 0; level < 3; level++) {
                ask("column", level, 5, 0, 1);
                long replay = ask("replay", level);
                if (!Calls.isThrown(replay)) {
                    ask("input", (int) replay, 2, 100);
                    ask("input", (int) replay, 2, 22);
                    askReplay((int) replay);
                    ask("where", (int) replay, 0);
                }
            }
        }
    }
}
