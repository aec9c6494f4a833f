import java.util.List;

/** Calls by name, of the class and of the Model; an exception is told as a number beyond all answers. */
final class Calls {
    /** An object of the class is used for so many calls at most. */
    static final int MOST = 512;

    static final long INDEX = 1L << 40;
    static final long ARGUMENT = 2L << 40;
    static final long STATE = 3L << 40;
    private static final long OTHER_OF_GATE = 8L << 40;
    private static final long OTHER_OF_MODEL = 9L << 40;

    private static final List<Class<?>> THROWN = List.of(
        IndexOutOfBoundsException.class, IllegalArgumentException.class, IllegalStateException.class);

    private Calls() {
    }

    static boolean isThrown(long answer) {
        return answer >= INDEX;
    }

    static String told(long answer) {
        if (!isThrown(answer)) {
            return Long.toString(answer);
        }
        int kind = (int) (answer >> 40) - 1;
        return kind < THROWN.size() ? "throws." + THROWN.get(kind).getSimpleName() : "throws something else";
    }

    static String told(String name, int[] a) {
        StringBuilder told = new StringBuilder(name).append('(');
        for (int i = 0; i < a.length; i++) {
            told.append(i == 0 ? "" : ", ").append(a[i]);
        }
        return told.append(')').toString();
    }

    /** The answer of the class; what the machine throws is none of the three exceptions. */
    static long answer(SplitGate gate, String name, int... a) {
        try {
            return call(gate, name, a);
        } catch (RuntimeException e) {
            for (Class<?> thrown : THROWN) {
                if (Check.isThrownByTheProgram(e, thrown)) {
                    return (THROWN.indexOf(thrown) + 1L) << 40;
                }
            }
            e.printStackTrace(System.out);
            return OTHER_OF_GATE;
        }
    }

    static long answer(Model model, String name, int... a) {
        try {
            return model.call(name, a);
        } catch (RuntimeException e) {
            int kind = THROWN.indexOf(e.getClass());
            if (kind < 0) {
                e.printStackTrace(System.out);
            }
            return kind < 0 ? OTHER_OF_MODEL : (kind + 1L) << 40;
        }
    }

    private static int call(SplitGate gate, String name, int[] a) {
        switch (name) {
            case "level": return gate.level();
            case "column": gate.column(a[0], a[1], a[2], a[3]); return 0;
            case "replay": return gate.replay(a[0]);
            case "input": return gate.input(a[0], a[1], a[2]);
            case "result": return gate.result(a[0]);
            case "used": return gate.used(a[0]);
            case "where": return gate.where(a[0], a[1]);
            case "category": return gate.category(a[0]);
            case "rule": return gate.rule(a[0], a[1], a[2], a[3], a[4]);
            case "pass": return gate.pass(a[0]);
            case "submit": return gate.submit(a[0], a[1], a[2]);
            case "judged": return gate.judged(a[0]);
            case "strike": return gate.strike(a[0]) ? 1 : 0;
            case "best": return gate.best(a[0], a[1]);
            case "bestAnew": return gate.bestAnew(a[0], a[1]);
            case "place": return gate.place(a[0], a[1]);
            case "at": return gate.at(a[0], a[1]);
            case "placeWithout": return gate.placeWithout(a[0]);
            case "estimate": return gate.estimate(a[0], a[1]);
            case "offer": return gate.offer(a[0], a[1]);
            case "gift": return gate.gift(a[0], a[1]);
            case "plan": return gate.plan(a[0]);
            default: throw new UnsupportedOperationException(name);
        }
    }
}
