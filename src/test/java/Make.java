/** Makes replays and runs of known lengths for the tests. */
final class Make {
    static final int LEFT = 1;
    static final int RIGHT = 2;
    static final int JUMP = 4;
    static final int DASH = 8;

    /** For scripts: a flat level with the category 0, and the replay 0 that comes home behind 122 ticks. */
    static final String HOME = "level; category 0; replay 0; input 0 2 100; input 0 2 22";

    private Make() {
    }

    /** A replay of pieces, told as pairs of buttons and ticks. */
    static int replay(SplitGate x, int level, int... pieces) {
        int replay = x.replay(level);
        inputs(x, replay, pieces);
        return replay;
    }

    static void inputs(SplitGate x, int replay, int... pieces) {
        for (int i = 0; i + 1 < pieces.length; i += 2) {
            x.input(replay, pieces[i], pieces[i + 1]);
        }
    }

    /** A replay that waits and then walks home over a flat level, in 'ticks' (122 to 222) altogether. */
    static int walk(SplitGate x, int level, int ticks) {
        int replay = x.replay(level);
        if (ticks > 122) {
            x.input(replay, 0, ticks - 122);
        }
        inputs(x, replay, RIGHT, 100, RIGHT, 22);
        return replay;
    }

    /** For scripts: a replay of the level 0, which is flat, that comes home behind so many ticks, 122 to 222. */
    static String walk(int replay, int ticks) {
        String wait = ticks > 122 ? "; input " + replay + " 0 " + (ticks - 122) : "";
        return "replay 0 = " + replay + wait + "; input " + replay + " 2 100; input " + replay + " 2 22";
    }

    /** For scripts: the same for several replays from 0, behind a flat level with the categories 0 and 1. */
    static String walks(int... ticks) {
        StringBuilder told = new StringBuilder("level; category 0; category 0");
        for (int replay = 0; replay < ticks.length; replay++) {
            told.append("; ").append(walk(replay, ticks[replay]));
        }
        return told.toString();
    }

    /** An archive with as many flat levels, and with a category for each of 'levelsOfCategories'. */
    static SplitGate archive(int levels, int... levelsOfCategories) {
        SplitGate x = new SplitGate();
        for (int i = 0; i < levels; i++) {
            x.level();
        }
        for (int level : levelsOfCategories) {
            x.category(level);
        }
        return x;
    }
}
