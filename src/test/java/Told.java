import java.util.ArrayList;
import java.util.List;
import java.util.function.ToIntFunction;

/** All that an object tells: as it is, after each undo, after restore, and of its text. */
final class Told {
    private static final int HISTORY = 17;
    private static final int UNDOS = 4;
    private static final int OF_SNAPSHOT = UNDOS + 1;
    private static final int OF_BITS = UNDOS + 2;
    private static final int OF_SYMBOLS = UNDOS + 3;
    private static final int VIEWS = UNDOS + 4;

    static final List<String> NAMES = new ArrayList<>();
    static final List<ToIntFunction<Face>> LOOKS = new ArrayList<>();

    static {
        for (int i = 0; i <= 18; i++) {
            int what = i;
            look("count(" + i + ")", x -> x.count(what));
        }
        for (int i = 0; i <= 80; i++) {
            int bit = i;
            look("sent(" + i + ")", x -> x.sent(bit));
            look("released(" + i + ")", x -> x.released(bit));
        }
        for (int i = 0; i <= 240; i++) {
            int symbol = i;
            look("line(" + i + ", 0)", x -> x.line(symbol, 0));
            look("line(" + i + ", 1)", x -> x.line(symbol, 1));
            look("line(" + i + ", 2)", x -> x.line(symbol, 2));
        }
        for (int i = 0; i <= 32; i++) {
            looksOfState(i);
        }
        look("agreed()", Face::agreed);
        look("freeDistance()", Face::freeDistance);
        look("hasIdleRing()", Face::hasIdleRing);
        look("wrongBits()", Face::wrongBits);
    }

    private final int[][] views = new int[VIEWS][];
    private final boolean hasSnapshot;

    Told(Walks walks) {
        for (int view = 0; view < VIEWS; view++) {
            views[view] = look(walks, view);
        }
        hasSnapshot = walks.twin().restore() != Face.NONE;
    }

    private static void looksOfState(int state) {
        look("metric(" + state + ")", x -> x.metric(state));
        for (int i = 0; i <= 80; i++) {
            int back = i;
            look("survivor(" + state + ", " + i + ")", x -> x.survivor(state, back));
        }
        for (int i = 0; i < 4; i++) {
            int bit = i / 2;
            int what = i % 2;
            look("step(" + state + ", " + bit + ", " + what + ")", x -> x.step(state, bit, what));
        }
    }

    private static void look(String name, ToIntFunction<Face> one) {
        NAMES.add(name);
        LOOKS.add(one);
    }

    /** What the object tells as it is, without what lies behind it. */
    static int[] asItIs(Walks walks) {
        return look(walks, 0);
    }

    private static int[] look(Walks walks, int view) {
        int[] answers = new int[LOOKS.size()];
        Walks twin = null;
        for (int i = 0; i < answers.length; i++) {
            if (twin == null || twin.callsLeft() == 0) {
                twin = walks.twin();
                turn(twin, view);
            }
            answers[i] = LOOKS.get(i).applyAsInt(twin);
        }
        return answers;
    }

    /** Brings to light what the view is of. */
    private static void turn(Walks twin, int view) {
        for (int i = 0; i < view && view <= UNDOS; i++) {
            twin.undo();
        }
        if (view == OF_SNAPSHOT) {
            twin.restore();
        }
        if (view == OF_BITS) {
            twin.setCode(1, 2, 1, 0);
            twin.setDepth(10);
            twin.send();
        }
        if (view == OF_SYMBOLS) {
            twin.setCode(1, 2, 1, 0);
            twin.setDepth(10);
            twin.hear();
            twin.type('0');
            twin.hear();
        }
    }

    /** After a call that returns an error or NONE, and after one that only tells. */
    void dueSame(String call, Told before) {
        for (int view = 0; view < VIEWS; view++) {
            for (int i = 0; i < views[view].length; i++) {
                due(call, view, i, before.views[view][i]);
            }
        }
    }

    /** After an act: what was is the latest of the history, and neither text nor snapshot is another. */
    void dueRecorded(String call, Told before) {
        int past = before.views[0][HISTORY];
        due(call, 0, HISTORY, Math.min(UNDOS, past + 1));
        for (int view = 0; view < UNDOS && view <= past; view++) {
            dueButHistory(call, view + 1, before.views[view]);
        }
        dueButHistory(call, OF_SNAPSHOT, hasSnapshot ? before.views[OF_SNAPSHOT] : views[0]);
        dueButHistory(call, OF_BITS, before.views[OF_BITS]);
        dueButHistory(call, OF_SYMBOLS, before.views[OF_SYMBOLS]);
        if (hasSnapshot != before.hasSnapshot) {
            Checks.fault(call + " made or took away a snapshot");
        }
    }

    private void dueButHistory(String call, int view, int[] want) {
        for (int i = 0; i < want.length; i++) {
            if (i != HISTORY) {
                due(call, view, i, want[i]);
            }
        }
    }

    private void due(String call, int view, int look, int want) {
        if (views[view][look] != want) {
            String where = view == 0 ? "as it is" : view <= UNDOS ? "after undo " + view
                : view == OF_SNAPSHOT ? "after restore" : "with the text";
            Checks.due(call + ", then " + where + " " + NAMES.get(look), views[view][look], want);
        }
    }
}
