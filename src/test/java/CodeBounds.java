/** Sentences with boundary cases of the chapters on the code: promises 1 to 3, 17, 24 and 25. */
final class CodeBounds extends Checks {
    private CodeBounds() {
    }

    static void into(Sentences all) {
        newObject(all);
        constants(all);
        setCode(all);
        setCodeThird(all);
        setDepth(all);
        step(all);
        stepTerms(all);
        freeDistance(all);
        hasIdleRing(all);
    }

    private static void newObject(Sentences all) {
        all.promise(1);
        all.of("Creates the first code, an empty line, and a reader that has taken nothing.", () -> {
            Walks x = new Walks();
            dueCounts(x, 2, 2, 7, 5, NONE, 10, 0, 0, 0, 0, 0, 0, 0, 0, 0, 1, 0, 0, 0);
            due("take of the empty line", x.take(1), NOT_POSSIBLE);
            due("reset of what has taken nothing", x.reset(), 0);
        });
        all.of("Creates the first code, an empty line, and a reader that has taken nothing.", () -> {
            Walks other = withAll();
            int[] first = Told.asItIs(new Walks());
            due("another object has sent", other.sendTail(), 10);
            int[] second = Told.asItIs(new Walks());
            for (int i = 0; i < first.length; i++) {
                due(Told.NAMES.get(i), second[i], first[i]);
            }
            dueCounts(new Walks(), 2, 2, 7, 5, NONE, 10, 0, 0, 0, 0, 0, 0, 0, 0, 0, 1, 0, 0, 0);
        });
        all.of("At first the memory is 2, and the taps are 7 and 5.", () -> {
            Walks x = new Walks();
            dueCounts(x, 2, 2, 7, 5, NONE);
            due("the last state", x.step(3, 1, 1), 2);
            due("behind it", x.step(4, 1, 1), UNKNOWN);
        });
        all.of("The sender has a register (0 at first)", () -> {
            Walks x = new Walks();
            due("register", x.count(8), 0);
            sendAll(x, "1");
            dueLine(x, "11");
        });
        all.of("at first 0 for the state 0, and none for the others", () -> {
            Walks x = new Walks();
            dueMetrics(x, 0, NONE, NONE, NONE, UNKNOWN);
            dueCounts(x, 2, 2, 7, 5, NONE, 10, 0, 0, 0, 0, 0, 0, 0, 0, 0, 1);
        });
        all.of("(A state with no metric cannot be reached.)", () -> {
            Walks x = new Walks();
            due("the state 1", x.metric(1), NONE);
            due("its survivor", x.survivor(1, 0), NONE);
            hearAll(x, "11", 0);
            dueMetrics(x, 2, NONE, 0, NONE);
            due("its survivor", x.survivor(1, 0), NONE);
        });
        all.of("the depth (2 to 40, at first 10)", () -> {
            Walks x = new Walks();
            due("depth", x.count(5), 10);
            hearAll(x, zeros(18), 0);
            hearAll(x, "00", 1);
        });
        all.of("There is a text of at most 60 characters, empty at first.", () -> {
            Walks x = new Walks();
            due("length", x.count(18), 0);
            due("send", x.send(), -100);
            due("hear", x.hear(), -100);
            due("clearText", x.clearText(), 0);
        });
        all.of("There is one snapshot, empty at first.", () -> same(new Walks(), "restore", Face::restore, NONE));
        all.of("A history of at most 4 states is kept", () -> same(new Walks(), "undo", Face::undo, NONE));
        all.of("An object is used for at most 512 calls after it has been made", () -> {
            Walks x = withSent("1");
            for (int i = 0; x.callsLeft() > 2; i++) {
                due("flip", x.flip(0), i % 2);
            }
            due("511th call", x.setCode(5, 63, 1, 32), 3);
            due("512th call", x.step(31, 1, 1), 3);
        });
    }

    private static void constants(Sentences all) {
        all.of("`UNKNOWN = -1`: There is no such state, symbol or bit.", () -> {
            due("UNKNOWN", LikelyWalks.UNKNOWN, -1);
            Walks x = new Walks();
            due("step", x.step(4, 0, 0), -1);
            due("metric", x.metric(4), -1);
            due("flip", x.flip(0), -1);
            due("sent", x.sent(0), -1);
        });
        all.of("`BAD_VALUE = -2`: Another argument is out of range.", () -> {
            due("BAD_VALUE", LikelyWalks.BAD_VALUE, -2);
            due("depth", new Walks().setDepth(1), -2);
        });
        all.of("`FULL = -3`: There is no more room.", () -> {
            due("FULL", LikelyWalks.FULL, -3);
            Walks x = new Walks();
            write(x, zeros(60));
            due("type", x.type('0'), -3);
        });
        all.of("`NOT_POSSIBLE = -4`: This is not possible.", () -> {
            due("NOT_POSSIBLE", LikelyWalks.NOT_POSSIBLE, -4);
            due("take", new Walks().take(1), -4);
        });
        all.of("`NONE = -5`: There is no such thing; not an error.", () -> {
            due("NONE", LikelyWalks.NONE, -5);
            due("undo", new Walks().undo(), -5);
        });
        all.of("Errors are reported by the constants below.", () -> {
            Walks x = new Walks();
            due("UNKNOWN", x.flip(0), LikelyWalks.UNKNOWN);
            due("BAD_VALUE", x.take(0), LikelyWalks.BAD_VALUE);
            due("NOT_POSSIBLE", x.take(1), LikelyWalks.NOT_POSSIBLE);
            due("NONE", x.undo(), LikelyWalks.NONE);
        });
    }

    private static void setCode(Sentences all) {
        all.promise(2);
        all.of("`memory`: 1 to 5", () -> {
            for (int memory = 1; memory <= 5; memory++) {
                Walks x = withCode(memory, 1, 1, 1);
                due("memory", x.count(0), memory);
                due("last state", x.metric((1 << memory) - 1), NONE);
                due("behind it", x.metric(1 << memory), UNKNOWN);
            }
        });
        all.of("BAD_VALUE", () -> {
            Walks x = withAll();
            for (int memory : new int[] {0, -1, -2, -31, Integer.MIN_VALUE}) {
                same(x, "too small a memory: " + memory, w -> w.setCode(memory, 1, 1, 0), BAD_VALUE);
            }
        });
        all.of("BAD_VALUE", () -> {
            Walks x = withAll();
            for (int memory : new int[] {6, 7, 31, 32, 33, 37, 65, Integer.MAX_VALUE}) {
                same(x, "too large a memory: " + memory, w -> w.setCode(memory, 1, 1, 0), BAD_VALUE);
            }
        });
        all.of("BAD_VALUE", () -> same(withAll(), "all out of range", x -> x.setCode(0, 0, 0, -1), BAD_VALUE));
        all.of("a number from 1 to 2 to the power (memory + 1) less 1", () -> {
            for (int memory = 1; memory <= 5; memory++) {
                int highest = (2 << memory) - 1;
                dueCounts(withCode(memory, 1, highest, 0), memory, 2, 1, highest, NONE);
                dueCounts(withCode(memory, highest, 1, highest), memory, 3, highest, 1, highest);
                dueCounts(withCode(memory, highest, highest, 1), memory, 3, highest, highest, 1);
            }
        });
        all.of("`first`: the taps of the first output", () -> {
            for (int memory = 1; memory <= 5; memory++) {
                refusedTaps(memory, 0, 0);
                refusedTaps(memory, 0, -1);
                refusedTaps(memory, 0, Integer.MIN_VALUE);
                refusedTaps(memory, 0, 2 << memory);
                refusedTaps(memory, 0, Integer.MAX_VALUE);
            }
        });
        all.of("`second`: the taps of the second output", () -> {
            for (int memory = 1; memory <= 5; memory++) {
                refusedTaps(memory, 1, 0);
                refusedTaps(memory, 1, -1);
                refusedTaps(memory, 1, Integer.MIN_VALUE);
                refusedTaps(memory, 1, 2 << memory);
                refusedTaps(memory, 1, Integer.MAX_VALUE);
            }
        });
        all.of("Sets another code: nothing is sent, the line is empty, and the reader is reset; the depth stays.", () -> {
            Walks x = new Walks();
            due("depth", x.setDepth(40), 10);
            sendEighty(x, "1".repeat(40));
            due("erase", x.erase(0), 1);
            due("flip", x.flip(159), 1 - x.line(159, 1));
            due("take", x.take(80), 41);
            due("finish", x.finish(false), 80);
            due("setCode", x.setCode(5, 1, 2, 32), 3);
            dueCounts(x, 5, 3, 1, 2, 32, 40, 0, 0, 0, 0, 0, 0, 0, 0, 0, 1, 0, 4, 40);
            int[] got = Told.asItIs(x);
            Walks fresh = withCode(5, 1, 2, 32);
            fresh.setDepth(40);
            int[] want = Told.asItIs(fresh);
            for (int i = 0; i < got.length; i++) {
                boolean isFree = Told.NAMES.get(i).equals("count(17)") || Told.NAMES.get(i).equals("count(18)");
                due(Told.NAMES.get(i), got[i], isFree ? got[i] : want[i]);
            }
            due("not finished", x.finish(true), 0);
        });
        all.of("This is an act.", () -> {
            act(withAll(), "setCode", x -> x.setCode(5, 63, 1, 0), 2);
            act(withAll(), "the same code again", x -> x.setCode(3, 15, 13, 9), 3);
            act(new Walks(), "the first code again", x -> x.setCode(2, 7, 5, 0), 2);
        });
    }

    private static void refusedTaps(int memory, int output, int taps) {
        Walks x = memory == 1 || memory == 5 ? withAll() : new Walks();
        int first = output == 0 ? taps : 1;
        int second = output == 1 ? taps : 1;
        String call = "setCode(" + memory + ", " + first + ", " + second;
        same(x, call + ", 0)", w -> w.setCode(memory, first, second, 0), BAD_VALUE);
        due(call + ", 1)", x.setCode(memory, first, second, 1), BAD_VALUE);
    }

    private static void setCodeThird(Sentences all) {
        all.of("`third`: the taps of the third output, 0 if there are only two", () -> {
            Walks x = withCode(1, 3, 3, 0);
            dueCounts(x, 1, 2, 3, 3, NONE);
            due("symbols", x.step(0, 1, 1), 3);
            x = withCode(1, 3, 3, 1);
            dueCounts(x, 1, 3, 3, 3, 1);
            due("symbols", x.step(0, 1, 1), 6);
        });
        all.of("`third`: the taps of the third output, 0 if there are only two", () -> {
            for (int memory = 1; memory <= 5; memory++) {
                int highest = (2 << memory) - 1;
                int same = memory;
                dueCounts(withCode(memory, 1, 1, highest), memory, 3, 1, 1, highest);
                Walks x = withAll();
                for (int third : new int[] {-1, Integer.MIN_VALUE, highest + 1, Integer.MAX_VALUE}) {
                    same(x, "setCode(" + memory + ", 1, 1, " + third + ")", w -> w.setCode(same, 1, 1, third), BAD_VALUE);
                }
            }
        });
        all.of("Returns how many symbols a step has", () -> {
            Walks x = new Walks();
            due("two", x.setCode(5, 63, 63, 0), 2);
            due("three", x.setCode(5, 63, 63, 1), 3);
            due("two again", x.setCode(1, 1, 1, 0), 2);
            sendAll(x, "1");
            due("symbols of a step", x.count(7), 2);
        });
    }

    private static void setDepth(Sentences all) {
        all.promise(3);
        all.of("Sets the depth.", () -> {
            Walks x = new Walks();
            due("setDepth", x.setDepth(3), 10);
            due("depth", x.count(5), 3);
            hearAll(x, "0000", 0);
            hearAll(x, "00", 1);
        });
        all.of("`depth`: 2 to 40", () -> {
            Walks x = new Walks();
            due("the least", x.setDepth(2), 10);
            due("depth", x.count(5), 2);
            due("the most", x.setDepth(40), 2);
            due("depth", x.count(5), 40);
        });
        all.of("BAD_VALUE", () -> {
            for (int depth : new int[] {1, 0, -1, -2, Integer.MIN_VALUE}) {
                same(withSent("11"), "too small: " + depth, x -> x.setDepth(depth), BAD_VALUE);
            }
        });
        all.of("BAD_VALUE", () -> {
            for (int depth : new int[] {41, 42, 80, 266, Integer.MAX_VALUE}) {
                same(withSent("11"), "too large: " + depth, x -> x.setDepth(depth), BAD_VALUE);
            }
        });
        all.of("Returns the previous one", () -> {
            Walks x = new Walks();
            for (int depth = 2; depth <= 40; depth++) {
                due("setDepth", x.setDepth(depth), depth == 2 ? 10 : depth - 1);
            }
            due("back to the least", x.setDepth(2), 40);
        });
        all.of("NOT_POSSIBLE if the reader has taken any step", () -> {
            Walks x = withSent("1");
            due("sent, not taken", x.setDepth(4), 10);
            due("take", x.take(1), 0);
            same(x, "taken one from the line", w -> w.setDepth(7), NOT_POSSIBLE);
            same(withHeard("??", 0), "heard one", w -> w.setDepth(7), NOT_POSSIBLE);
            due("finish", x.finish(false), 1);
            same(x, "finished", w -> w.setDepth(7), NOT_POSSIBLE);
            due("reset", x.reset(), 1);
            due("taken none since", x.setDepth(7), 4);
        });
        all.of("NOT_POSSIBLE if the reader has taken any step", () -> {
            Walks x = new Walks();
            due("finish of nothing", x.finish(true), 0);
            due("finished, but no step was taken", x.setDepth(7), 10);
        });
        all.of("NOT_POSSIBLE if the reader has taken any step", () -> {
            Walks x = withSent(zeros(40));
            due("send", x.send(), 80);
            due("take", x.take(80), 71);
            same(x, "taken eighty", w -> w.setDepth(2), NOT_POSSIBLE);
        });
        all.of("NONE if it is so already", () -> {
            same(new Walks(), "10 at first", x -> x.setDepth(10), NONE);
            Walks x = withSent("101");
            due("setDepth", x.setDepth(2), 10);
            same(x, "the least again", w -> w.setDepth(2), NONE);
            due("setDepth", x.setDepth(40), 2);
            same(x, "the most again", w -> w.setDepth(40), NONE);
        });
        all.of("NONE is no error; it is returned only if no error applies.", () ->
            same(withHeard("00", 0), "taken, and so already", x -> x.setDepth(10), NOT_POSSIBLE));
        all.of("the order of the @return line is the order of the checks", () -> {
            same(withHeard("00", 0), "too small, and taken", x -> x.setDepth(1), BAD_VALUE);
            same(withHeard("00", 0), "too large, and taken", x -> x.setDepth(41), BAD_VALUE);
        });
        all.of("This is an act.", () -> {
            act(withSent("1"), "setDepth", x -> x.setDepth(2), 10);
            Walks x = withAll();
            due("reset", x.reset(), 3);
            act(x, "setDepth", w -> w.setDepth(40), 2);
        });
    }

    private static void step(Sentences all) {
        all.promise(17);
        all.of("`state`: a state of the code", () -> {
            for (int memory = 1; memory <= 5; memory++) {
                Walks x = withCode(memory, 1, 1, 0);
                int last = (1 << memory) - 1;
                due("the first state", x.step(0, 0, 0), 0);
                due("the last state", x.step(last, 1, 0), last);
                due("the last state by 0", x.step(last, 0, 0), last / 2);
                due("behind the last", x.step(last + 1, 0, 0), UNKNOWN);
                due("ahead of the first", x.step(-1, 0, 0), UNKNOWN);
            }
        });
        all.of("UNKNOWN (the state)", () -> {
            Walks x = withAll();
            same(x, "behind the last", w -> w.step(8, 0, 0), UNKNOWN);
            same(x, "ahead of the first", w -> w.step(-1, 1, 1), UNKNOWN);
            for (int far : FAR) {
                due("step(" + far + ")", x.step(far, 0, 0), UNKNOWN);
            }
            due("of a code with more states", x.setCode(1, 1, 1, 0), 2);
            due("no longer", x.step(2, 0, 0), UNKNOWN);
        });
        all.of("`bit`: 0 or 1", () -> {
            Walks x = new Walks();
            due("0", x.step(2, 0, 0), 1);
            due("1", x.step(2, 1, 0), 3);
            due("below", x.step(2, -1, 0), BAD_VALUE);
            due("above", x.step(2, 2, 0), BAD_VALUE);
        });
        all.of("0 for the state to which the register comes, 1 for the symbols of the step as a number in base 2,"
            + " the first one being the highest digit", () -> {
                Walks x = withCode(2, 4, 2, 1);
                due("newest", x.step(0, 1, 1), 4);
                due("middle", x.step(2, 0, 1), 2);
                due("oldest", x.step(1, 0, 1), 1);
                due("all", x.step(3, 1, 1), 7);
                due("none", x.step(0, 0, 1), 0);
                due("state", x.step(3, 1, 0), 3);
                x = withCode(2, 4, 1, 0);
                due("two: newest", x.step(0, 1, 1), 2);
                due("two: oldest", x.step(1, 0, 1), 1);
            });
        all.of("BAD_VALUE (bit or what)", () -> {
            Walks x = withAll();
            same(x, "bit above", w -> w.step(7, 2, 1), BAD_VALUE);
            same(x, "bit below", w -> w.step(7, -1, 0), BAD_VALUE);
            same(x, "what above", w -> w.step(0, 1, 2), BAD_VALUE);
            same(x, "what below", w -> w.step(0, 0, -1), BAD_VALUE);
            for (int far : FAR) {
                due("bit " + far, x.step(0, far, 0), BAD_VALUE);
                due("what " + far, x.step(0, 0, far), BAD_VALUE);
            }
        });
        all.of("the order of the @return line is the order of the checks", () -> {
            Walks x = new Walks();
            due("state and bit", x.step(4, 2, 0), UNKNOWN);
            due("state and what", x.step(-1, 0, 2), UNKNOWN);
            due("all", x.step(4, -1, -1), UNKNOWN);
        });
        all.of("Returns the number", () -> same(withAll(), "it changes nothing", x -> x.step(7, 1, 0), 7));
    }

    private static void stepTerms(Sentences all) {
        all.of("the window is b * 2 to the power memory + register", () -> {
            for (int memory = 1; memory <= 5; memory++) {
                Walks x = withCode(memory, 1 << memory, 1, 0);
                due("the bit is the highest", x.step(0, 1, 1), 2);
                due("the register's lowest", x.step(1, 0, 1), 1);
                due("both", x.step(1, 1, 1), 3);
                due("neither", x.step(0, 0, 1), 0);
            }
        });
        all.of("1 if an odd number of the bits that its taps and the window have in common is 1, otherwise 0", () -> {
            Walks x = withCode(5, 63, 62, 0);
            for (int ones = 0; ones <= 6; ones++) {
                int window = (1 << ones) - 1;
                int second = Math.max(0, ones - 1) % 2;
                due(ones + " in common", x.step(window % 32, window / 32, 1), ones % 2 * 2 + second);
            }
        });
        all.of("the register becomes window / 2 (rounded down)", () -> {
            Walks x = withCode(5, 1, 1, 0);
            due("63 / 2", x.step(31, 1, 0), 31);
            due("31 / 2", x.step(31, 0, 0), 15);
            due("33 / 2", x.step(1, 1, 0), 16);
            due("32 / 2", x.step(0, 1, 0), 16);
            due("1 / 2", x.step(1, 0, 0), 0);
            x = withCode(1, 1, 1, 0);
            due("3 / 2", x.step(1, 1, 0), 1);
            due("1 / 2", x.step(1, 0, 0), 0);
        });
        all.of("The register is a number from 0 to 2 to the power memory less 1; that is its state.", () -> {
            for (int memory = 1; memory <= 5; memory++) {
                Walks x = withCode(memory, 1, 1, 0);
                sendAll(x, "1".repeat(memory + 1));
                due("the highest", x.count(8), (1 << memory) - 1);
                due("tail", x.sendTail(), 2 * memory + 1);
                due("the lowest", x.count(8), 0);
            }
        });
        all.of("This is a step; each step has as many symbols as there are outputs.", () -> {
            Walks x = withCode(1, 3, 3, 3);
            due("three symbols", x.step(0, 1, 1), 7);
            sendAll(x, "1");
            due("three on the line", x.count(7), 3);
            x = withCode(1, 3, 3, 0);
            due("two symbols", x.step(0, 1, 1), 3);
            sendAll(x, "1");
            due("two on the line", x.count(7), 2);
        });
    }

    private static void dueFree(int memory, int first, int second, int third, int want) {
        Walks x = withCode(memory, first, second, third);
        due("freeDistance of " + memory + ": " + first + " " + second + " " + third, x.freeDistance(), want);
    }

    private static void freeDistance(Sentences all) {
        all.promise(24);
        all.of("Tells the least number of symbols 1 on any walk that leaves the state 0 by a bit 1", () -> {
            due("the first code", new Walks().freeDistance(), 5);
            dueFree(1, 1, 1, 0, 2);
            dueFree(5, 32, 32, 0, 2);
            dueFree(5, 1, 1, 1, 3);
            // The longer walk, by 11 and a tail, has fewer symbols 1 than that by one 1.
            dueFree(5, 63, 63, 63, 6);
            dueFree(2, 7, 7, 0, 4);
        });
        all.of("comes to the state 0 again for the first time", () -> {
            // 1 + D^31 is the least multiple of 1 + D^3 + D^5: that walk is over every state that is not 0.
            dueFree(5, 37, 37, 0, 4);
            dueFree(5, 37, 37, 37, 6);
            dueFree(5, 41, 41, 41, 6);
            dueFree(4, 19, 19, 0, 4);
            dueFree(5, 39, 43, 61, 13);
        });
        all.of("(the least distance of two walks that part and meet again)", () -> {
            dueFree(1, 2, 1, 0, 2);
            dueFree(1, 3, 3, 3, 6);
            dueFree(3, 15, 13, 0, 6);
            dueFree(4, 19, 29, 0, 7);
            dueFree(5, 43, 61, 0, 8);
        });
        all.of("NONE if it is more than 40, or there is no such walk", () -> {
            // Each code has the walk of one 1 and a tail, with at most 18 symbols 1: NONE never comes.
            for (int memory = 1; memory <= 5; memory++) {
                int highest = (2 << memory) - 1;
                for (int taps = 1; taps <= highest; taps++) {
                    int distance = withCode(memory, taps, highest, highest).freeDistance();
                    due("3 to 18", distance >= 3 && distance <= 18 ? 1 : distance, 1);
                }
            }
        });
        all.of("Returns the number", () -> {
            same(withAll(), "it changes nothing", Face::freeDistance, 9);
            Walks x = new Walks();
            due("setCode", x.setCode(2, 7, 7, 5), 3);
            due("three outputs", x.freeDistance(), 8);
            due("undo", x.undo(), 0);
            due("two again", x.freeDistance(), 5);
        });
    }

    private static void dueRing(int memory, int first, int second, int third, int want) {
        Walks x = withCode(memory, first, second, third);
        due("hasIdleRing of " + memory + ": " + first + " " + second + " " + third, x.hasIdleRing(), want);
    }

    private static void hasIdleRing(Sentences all) {
        all.promise(25);
        all.of("a ring of steps that leads from a state that is not 0 back to itself", () -> {
            // Rings of 1, 2, 3, 7, 15 and 31 steps; the last one is over every state that is not 0.
            dueRing(1, 3, 3, 0, 1);
            dueRing(2, 5, 5, 0, 1);
            dueRing(2, 7, 7, 7, 1);
            dueRing(3, 11, 11, 0, 1);
            dueRing(4, 19, 19, 0, 1);
            dueRing(5, 37, 37, 37, 1);
        });
        all.of("not over the state 0", () -> {
            // Zeros lead from every state to the state 0, where they go round.
            dueRing(5, 32, 32, 0, 0);
            dueRing(1, 2, 2, 2, 0);
            dueRing(5, 1, 1, 1, 0);
            dueRing(3, 4, 4, 4, 0);
        });
        all.of("all of whose symbols are 0", () -> {
            dueRing(5, 37, 37, 1, 0);
            dueRing(5, 37, 1, 37, 0);
            dueRing(5, 1, 37, 37, 0);
            dueRing(5, 37, 41, 0, 0);
            dueRing(3, 11, 13, 0, 0);
            dueRing(5, 33, 33, 32, 0);
        });
        all.of("Returns 1 if there is one, otherwise 0.", () -> {
            due("the first code", new Walks().hasIdleRing(), 0);
            same(withAll(), "it changes nothing", Face::hasIdleRing, 0);
            Walks x = withCode(1, 3, 3, 0);
            due("with one", x.hasIdleRing(), 1);
            due("undo", x.undo(), 0);
            due("without", x.hasIdleRing(), 0);
        });
    }
}
