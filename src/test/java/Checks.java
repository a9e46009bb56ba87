import java.util.function.ToIntFunction;

/** What the tests share: answers that are due, calls that leave all as it was, acts, and ways to begin. */
abstract class Checks {
    static final int UNKNOWN = Face.UNKNOWN;
    static final int BAD_VALUE = Face.BAD_VALUE;
    static final int FULL = Face.FULL;
    static final int NOT_POSSIBLE = Face.NOT_POSSIBLE;
    static final int NONE = Face.NONE;
    static final int[] FAR = {Integer.MIN_VALUE, Integer.MIN_VALUE + 1, -1000000, 1000000, Integer.MAX_VALUE};

    private static final int MOST_TOLD = 20;
    private static String about = "";
    private static int checks = 0;
    private static int wrong = 0;

    static void about(String what) {
        about = what;
    }

    static int checks() {
        return checks;
    }

    static int wrong() {
        return wrong;
    }

    static void due(String call, int got, int want) {
        checks++;
        if (got != want) {
            fault(call + " answered " + got + ", due is " + want);
        }
    }

    static void fault(String what) {
        wrong++;
        if (wrong <= MOST_TOLD) {
            System.out.println(about + ": " + what);
        }
    }

    /** The call answers so, and nothing that can be told is another after it. */
    static void same(Walks x, String call, ToIntFunction<Face> one, int want) {
        Told before = x.told();
        due(call, one.applyAsInt(x), want);
        x.told().dueSame(call, before);
    }

    /** The call answers so, and what was before it is the latest of the history. */
    static void act(Walks x, String call, ToIntFunction<Face> one, int want) {
        Told before = x.told();
        due(call, one.applyAsInt(x), want);
        x.told().dueRecorded(call, before);
    }

    static void end(String what) {
        System.out.println(what + ", checks: " + checks + ", wrong: " + wrong);
        if (wrong != 0 || checks == 0) {
            System.exit(1);
        }
    }

    // ---- ways to begin

    static String zeros(int length) {
        return "0".repeat(length);
    }

    static void write(Face x, String text) {
        x.clearText();
        for (int i = 0; i < text.length(); i++) {
            due("type", x.type(text.charAt(i)), i + 1);
        }
    }

    static void sendAll(Face x, String bits) {
        int before = x.count(6);
        write(x, bits);
        due("send() of " + bits, x.send(), before + bits.length());
    }

    static void hearAll(Face x, String symbols, int released) {
        write(x, symbols);
        due("hear() of " + symbols, x.hear(), released);
    }

    static Walks withSent(String bits) {
        Walks x = new Walks();
        sendAll(x, bits);
        return x;
    }

    static Walks withHeard(String symbols, int released) {
        Walks x = new Walks();
        hearAll(x, symbols, released);
        return x;
    }

    static Walks withCode(int memory, int first, int second, int third) {
        Walks x = new Walks();
        due("setCode", x.setCode(memory, first, second, third), third == 0 ? 2 : 3);
        return x;
    }

    /** As many bits as can be sent, by the same text twice. */
    static void sendEighty(Face x, String forty) {
        write(x, forty);
        due("forty", x.send(), 40);
        due("eighty", x.send(), 80);
    }

    /** Something of everything: noise, steps, bits released, a text, a snapshot, a whole history. */
    static Walks withAll() {
        Walks x = withCode(3, 15, 13, 9);
        due("depth", x.setDepth(2), 10);
        sendAll(x, "1101");
        due("tail", x.sendTail(), 7);
        due("snapshot", x.keep(), 7);
        due("flip", x.flip(1), 0);
        due("erase", x.erase(5), x.line(5, 1));
        due("erase", x.erase(20), x.line(20, 1));
        due("take", x.take(3), 2);
        write(x, "01?");
        return x;
    }

    // ---- rows of answers

    static void dueCounts(Face x, int... counts) {
        for (int i = 0; i < counts.length; i++) {
            due("count(" + i + ")", x.count(i), counts[i]);
        }
    }

    static void dueLine(Face x, String symbols) {
        due("count(7)", x.count(7), symbols.length());
        for (int i = 0; i < symbols.length(); i++) {
            due("line(" + i + ", 0)", x.line(i, 0), "01?".indexOf(symbols.charAt(i)));
        }
        due("line behind the end", x.line(symbols.length(), 0), UNKNOWN);
    }

    static void dueSent(Face x, String bits) {
        due("count(6)", x.count(6), bits.length());
        for (int i = 0; i < bits.length(); i++) {
            due("sent(" + i + ")", x.sent(i), bits.charAt(i) - '0');
        }
        due("sent behind the end", x.sent(bits.length()), UNKNOWN);
    }

    static void dueReleased(Face x, String bits) {
        due("count(12)", x.count(12), bits.length());
        for (int i = 0; i < bits.length(); i++) {
            due("released(" + i + ")", x.released(i), bits.charAt(i) - '0');
        }
        due("released behind the end", x.released(bits.length()), UNKNOWN);
    }

    static void dueSurvivor(Face x, int state, String bits) {
        for (int back = 0; back < bits.length(); back++) {
            due("survivor(" + state + ", " + back + ")", x.survivor(state, back),
                bits.charAt(bits.length() - 1 - back) - '0');
        }
        due("survivor(" + state + ", all)", x.survivor(state, bits.length()), NONE);
    }

    static void dueMetrics(Face x, int... metrics) {
        for (int state = 0; state < metrics.length; state++) {
            due("metric(" + state + ")", x.metric(state), metrics[state]);
        }
    }
}
