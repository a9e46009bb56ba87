import java.util.Random;

/** Long runs of calls, drawn with fixed seeds, each answer held against the plain model. */
public final class RandomRunsTest {
    private static final int RUNS = 600;
    /** A look at everything asks twins, each of which makes all calls again: near the end it takes too long. */
    private static final int LAST_LOOK = 400;
    private static final int[] ODD = {Integer.MIN_VALUE, -2, -1, 0, 1, 2, 3, 79, 80, 81, 240, Integer.MAX_VALUE};

    private final Random random;
    private final Walks walks = new Walks();
    private final PlainModel model = new PlainModel();
    private final StringBuilder told = new StringBuilder();
    private boolean wrong = false;

    private RandomRunsTest(long seed) {
        random = new Random(seed);
    }

    public static void main(String[] args) {
        for (int run = 1; run <= RUNS; run++) {
            RandomRunsTest test = new RandomRunsTest(run);
            while (test.walks.callsLeft() > 0 && !test.wrong) {
                test.oneCall();
            }
            if (test.wrong) {
                System.out.println("run " + run + ":\n" + test.told);
                System.exit(1);
            }
        }
        System.out.println("random runs: " + RUNS + " runs of 512 calls agree with the model");
    }

    private void due(String call, int got, int want) {
        told.append(call).append(" = ").append(got).append('\n');
        if (got != want) {
            told.append("due is ").append(want).append('\n');
            wrong = true;
        }
    }

    /** Mostly a number that is allowed, now and then one at an edge or beyond. */
    private int some(int least, int most) {
        if (random.nextInt(12) == 0) {
            return ODD[random.nextInt(ODD.length)];
        }
        return least + random.nextInt(most - least + 1);
    }

    private void oneCall() {
        int kind = random.nextInt(100);
        if (kind < 3) {
            int memory = some(1, 5);
            int highest = memory >= 1 && memory <= 5 ? (2 << memory) - 1 : 7;
            int a = some(1, highest);
            int b = some(1, highest);
            int c = random.nextBoolean() ? 0 : some(0, highest);
            due("setCode(" + memory + ", " + a + ", " + b + ", " + c + ")",
                walks.setCode(memory, a, b, c), model.setCode(memory, a, b, c));
        } else if (kind < 6) {
            int depth = some(2, random.nextBoolean() ? 6 : 40);
            due("setDepth(" + depth + ")", walks.setDepth(depth), model.setDepth(depth));
        } else if (kind < 14) {
            due("send()", walks.send(), model.send());
        } else if (kind < 16) {
            due("sendTail()", walks.sendTail(), model.sendTail());
        } else if (kind < 21) {
            int symbol = some(0, Math.max(1, model.count(7)));
            due("flip(" + symbol + ")", walks.flip(symbol), model.flip(symbol));
        } else if (kind < 25) {
            int symbol = some(0, Math.max(1, model.count(7)));
            due("erase(" + symbol + ")", walks.erase(symbol), model.erase(symbol));
        } else if (kind < 34) {
            int steps = some(1, random.nextInt(4) == 0 ? 40 : 6);
            due("take(" + steps + ")", walks.take(steps), model.take(steps));
        } else if (kind < 38) {
            due("hear()", walks.hear(), model.hear());
        } else if (kind < 39) {
            boolean tail = random.nextBoolean();
            due("finish(" + tail + ")", walks.finish(tail), model.finish(tail));
        } else if (kind < 40) {
            due("reset()", walks.reset(), model.reset());
        } else if (kind < 45) {
            someText();
        } else if (kind < 52) {
            history();
        } else {
            oneLook();
        }
    }

    private void someText() {
        if (random.nextInt(2) == 0 && walks.callsLeft() > 0) {
            due("clearText()", walks.clearText(), model.clearText());
        }
        String signs = random.nextInt(3) == 0 ? "01?" : random.nextInt(25) == 0 ? "01?xA2 \u00ff\u0130" : "01";
        int length = random.nextInt(random.nextInt(8) == 0 ? 62 : 16);
        for (int i = 0; i < length && walks.callsLeft() > 0; i++) {
            char c = signs.charAt(random.nextInt(signs.length()));
            due("type((char) " + (int) c + ")", walks.type(c), model.type(c));
        }
    }

    private void history() {
        int kind = random.nextInt(7);
        if (kind < 4) {
            due("undo()", walks.undo(), model.undo());
        } else if (kind < 5) {
            due("keep()", walks.keep(), model.keep());
        } else {
            due("restore()", walks.restore(), model.restore());
        }
    }

    private void oneLook() {
        int states = 1 << model.count(0);
        int state = some(0, states);
        int number = some(0, 80);
        int small = some(0, 2);
        switch (random.nextInt(12)) {
            case 0 -> due("step(" + state + ", " + small + ", " + number % 3 + ")",
                walks.step(state, small, number % 3), model.step(state, small, number % 3));
            case 1 -> {
                int symbol = some(0, Math.max(1, model.count(7)));
                due("line(" + symbol + ", " + small + ")", walks.line(symbol, small), model.line(symbol, small));
            }
            case 2 -> due("sent(" + number + ")", walks.sent(number), model.sent(number));
            case 3 -> due("released(" + number + ")", walks.released(number), model.released(number));
            case 4 -> due("metric(" + state + ")", walks.metric(state), model.metric(state));
            case 5 -> due("survivor(" + state + ", " + number + ")",
                walks.survivor(state, number), model.survivor(state, number));
            case 6 -> due("agreed()", walks.agreed(), model.agreed());
            case 7 -> due("freeDistance()", walks.freeDistance(), model.freeDistance());
            case 8 -> due("hasIdleRing()", walks.hasIdleRing(), model.hasIdleRing());
            case 9 -> due("wrongBits()", walks.wrongBits(), model.wrongBits());
            case 10 -> everyLook();
            default -> {
                int what = some(-1, 19);
                due("count(" + what + ")", walks.count(what), model.count(what));
            }
        }
    }

    private void everyLook() {
        if (walks.calls() > LAST_LOOK) {
            return;
        }
        int[] answers = Told.asItIs(walks);
        for (int i = 0; i < answers.length; i++) {
            int want = Told.LOOKS.get(i).applyAsInt(model);
            if (answers[i] != want) {
                due(Told.NAMES.get(i), answers[i], want);
            }
        }
    }
}
