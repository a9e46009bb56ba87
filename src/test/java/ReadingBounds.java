/** Sentences with boundary cases of the chapters on reading: promises 8 to 11 and 20 to 23. */
final class ReadingBounds extends Checks {
    private ReadingBounds() {
    }

    static void into(Sentences all) {
        take(all);
        takeRefused(all);
        takeTerms(all);
        depths(all);
        hear(all);
        hearFaults(all);
        hearRefused(all);
        finish(all);
        finishTerms(all);
        reset(all);
        released(all);
        metric(all);
        survivor(all);
        survivorRefused(all);
        agreed(all);
    }

    private static void take(Sentences all) {
        all.promise(8);
        all.of("Lets the reader take steps from the line, from where it is on.", () -> {
            Walks x = withSent("1011000");
            due("take", x.take(1), 0);
            dueMetrics(x, 2, NONE, 0, NONE);
            due("the next", x.take(1), 0);
            dueMetrics(x, 3, 0, 3, 2);
            due("steps", x.count(11), 2);
            due("all the rest", x.take(5), 0);
            due("steps", x.count(11), 7);
            due("the best", x.count(13), 0);
            dueSurvivor(x, 0, "1011000");
        });
        all.of("`steps`: 1 to 80", () -> {
            Walks x = new Walks();
            sendEighty(x, "0001".repeat(10));
            due("the most", x.take(80), 71);
            due("steps", x.count(11), 80);
            due("the last symbol", x.line(159, 2), 1);
            due("reset", x.reset(), 80);
            due("the least", x.take(1), 0);
            due("steps", x.count(11), 1);
        });
        all.of("Returns how many bits were released so far", () -> {
            Walks x = withSent(zeros(20));
            due("none", x.take(9), 0);
            due("one", x.take(1), 1);
            due("two", x.take(1), 2);
            due("eleven", x.take(9), 11);
        });
        all.of("This is an act.", () -> {
            act(withSent("1"), "take", x -> x.take(1), 0);
            act(withAll(), "take over a whole history", x -> x.take(2), 4);
        });
    }

    private static void takeRefused(Sentences all) {
        all.of("BAD_VALUE", () -> {
            Walks x = withAll();
            for (int steps : new int[] {0, -1, -2, -80, Integer.MIN_VALUE}) {
                same(x, "too few: " + steps, w -> w.take(steps), BAD_VALUE);
            }
        });
        all.of("BAD_VALUE", () -> {
            Walks x = new Walks();
            sendEighty(x, "0001".repeat(10));
            for (int steps : new int[] {81, 82, 256, 257, Integer.MAX_VALUE}) {
                same(x, "too many: " + steps, w -> w.take(steps), BAD_VALUE);
            }
        });
        all.of("NOT_POSSIBLE if the reading is finished, or the line has not so many", () -> {
            Walks x = withSent("101");
            due("finish", x.finish(false), 0);
            same(x, "finished with nothing taken", w -> w.take(1), NOT_POSSIBLE);
            due("reset", x.reset(), 0);
            due("take", x.take(1), 0);
            due("finish", x.finish(false), 1);
            same(x, "finished with two left", w -> w.take(2), NOT_POSSIBLE);
            due("undo", x.undo(), 3);
            due("not finished", x.take(2), 0);
        });
        all.of("NOT_POSSIBLE if the reading is finished, or the line has not so many", () -> {
            same(new Walks(), "an empty line", x -> x.take(1), NOT_POSSIBLE);
            Walks x = withSent("1011");
            same(x, "one too many", w -> w.take(5), NOT_POSSIBLE);
            same(x, "most too many", w -> w.take(80), NOT_POSSIBLE);
            due("take", x.take(3), 0);
            same(x, "one too many of the rest", w -> w.take(2), NOT_POSSIBLE);
            due("the last", x.take(1), 0);
            same(x, "none left", w -> w.take(1), NOT_POSSIBLE);
            due("tail", x.sendTail(), 6);
            due("two left", x.take(2), 0);
        });
        all.of("FULL if there would be more than 80 steps", () -> {
            Walks x = withHeard("??", 0);
            sendEighty(x, zeros(40));
            same(x, "one too many", w -> w.take(80), FULL);
            due("just room", x.take(79), 71);
            same(x, "full", w -> w.take(1), FULL);
            due("reset", x.reset(), 80);
            due("room again", x.take(80), 71);
        });
        all.of("the order of the @return line is the order of the checks", () -> {
            Walks x = withHeard("??", 0);
            same(x, "too few, of an empty line", w -> w.take(0), BAD_VALUE);
            same(x, "too many, of an empty line", w -> w.take(81), BAD_VALUE);
            sendEighty(x, zeros(40));
            same(x, "too many, and full", w -> w.take(81), BAD_VALUE);
            due("take", x.take(79), 71);
            same(x, "too few, and full", w -> w.take(0), BAD_VALUE);
            same(x, "more than the line has, and full", w -> w.take(2), NOT_POSSIBLE);
            due("finish", x.finish(false), 80);
            same(x, "finished, and full", w -> w.take(1), NOT_POSSIBLE);
            same(x, "too few, and finished", w -> w.take(0), BAD_VALUE);
            same(x, "too many, and finished", w -> w.take(81), BAD_VALUE);
        });
    }

    private static void takeTerms(Sentences all) {
        all.of("It has taken at most 80 steps.", () -> {
            Walks x = withSent("1");
            hearAll(x, "?".repeat(60), 21);
            due("hear", x.hear(), 51);
            write(x, "?".repeat(38));
            due("hear", x.hear(), 70);
            due("the last one", x.take(1), 71);
            due("steps", x.count(11), 80);
            due("survivor", x.survivor(2, 79), 0);
        });
        all.of("its price is the number of symbols that the reader takes and that are neither erased"
            + " nor those of the code", () -> {
                Walks x = withCode(1, 2, 1, 3);
                hearAll(x, "???", 0);
                dueMetrics(x, 0, 0);
                hearAll(x, "000", 0);
                dueMetrics(x, 0, 2);
                due("reset", x.reset(), 2);
                hearAll(x, "?11", 0);
                dueMetrics(x, 2, 1);
                due("reset", x.reset(), 1);
                hearAll(x, "111", 0);
                dueMetrics(x, 3, 1);
            });
        all.of("The metric of t becomes the least of metric + price over all walks that come to it", () -> {
            // 11 and 00: to the state 0 come 0 at 2 + 0 and, by 10, 1 with no metric.
            Walks x = withSent("10");
            due("flip", x.flip(2), 0);
            due("take", x.take(2), 0);
            dueMetrics(x, 2, 1, 4, 1);
            hearAll(x, "11", 0);
            // To 0: 2 + 2 or 1 + 0; to 2: 2 + 0 or 1 + 2; to 1: 4 + 1 or 1 + 1; to 3: 4 + 1 or 1 + 1.
            dueMetrics(x, 1, 2, 2, 2);
        });
        all.of("of several the one from the lowest s survives", () -> {
            Walks x = withHeard("??????????", 0);
            dueMetrics(x, 0, 0, 0, 0);
            dueSurvivor(x, 0, "00000");
            dueSurvivor(x, 1, "00010");
            dueSurvivor(x, 2, "00001");
            dueSurvivor(x, 3, "00011");
        });
        all.of("(two walks to one state always have the same bit)", () -> {
            Walks x = withHeard("0111100010", 0);
            dueCounts(x, 2, 2, 7, 5);
            for (int state = 0; state < 4; state++) {
                due("the latest bit", x.survivor(state, 0), state / 2);
                due("the one before", x.survivor(state, 1), state % 2);
            }
        });
        all.of("If none comes to t, it has no metric then.", () -> {
            Walks x = withCode(5, 63, 1, 0);
            sendAll(x, zeros(6));
            for (int steps = 1; steps <= 6; steps++) {
                due("take", x.take(1), 0);
                int apart = Math.max(1, 32 >> steps);
                due("states with a metric", x.count(15), 32 / apart);
                for (int state = 0; state < 32; state++) {
                    due("metric(" + state + ")", x.metric(state) == NONE ? 0 : 1, state % apart == 0 ? 1 : 0);
                }
            }
        });
        all.of("In a step, for each state s with a metric and each bit b", () -> {
            Walks x = withCode(5, 63, 1, 0);
            sendAll(x, "1");
            due("take", x.take(1), 0);
            dueMetrics(x, 1, NONE, NONE, NONE, NONE, NONE, NONE, NONE, NONE, NONE, NONE, NONE, NONE, NONE, NONE, NONE, 0,
                NONE);
        });
        all.of("The best state is the one with the least metric, of several the lowest one.", () -> {
            Walks x = withHeard("??", 0);
            due("0 and 2 alike", x.count(13), 0);
            due("reset", x.reset(), 1);
            hearAll(x, "11110?", 0);
            dueMetrics(x, 2, 1, 1, 2);
            due("1 and 2 alike", x.count(13), 1);
            due("its metric", x.count(14), 1);
            due("finish", x.finish(false), 3);
            dueReleased(x, "110");
            due("the last one alone", withHeard("1110??01", 0).count(13), 3);
        });
    }

    private static void depths(Sentences all) {
        all.of("After each step, as long as the reader has taken at least as many steps as the depth", () -> {
            for (int depth = 2; depth <= 40; depth++) {
                if (depth == 10) {
                    continue;
                }
                Walks x = new Walks();
                due("depth", x.setDepth(depth), 10);
                sendEighty(x, zeros(40));
                due("one less than the depth", x.take(depth - 1), 0);
                due("as many as the depth", x.take(1), 1);
                due("one more", x.take(1), 2);
                due("all", x.take(79 - depth), 81 - depth);
            }
        });
        all.of("the next bit of the survivor of the best state is released (the first one that was not released yet)",
            () -> {
                // After 11 the best is 2, whose first bit is 1; after 00 00 it is 0 with 0000: only the next ones are.
                Walks x = new Walks();
                due("depth", x.setDepth(2), 10);
                hearAll(x, "1100", 1);
                dueReleased(x, "1");
                hearAll(x, "0000", 3);
                dueSurvivor(x, 0, "0000");
                dueReleased(x, "100");
            });
    }

    private static void hear(Sentences all) {
        all.promise(9);
        all.of("Lets the reader take the symbols of the text, which stays, in place of the line", () -> {
            Walks x = withSent("1");
            hearAll(x, "0?1?", 0);
            due("the text stays", x.count(18), 4);
            due("again", x.hear(), 0);
            due("steps", x.count(11), 4);
            dueLine(x, "11");
        });
        all.of("(where it is on the line it stays)", () -> {
            Walks x = withSent("101");
            due("take", x.take(1), 0);
            hearAll(x, "????", 0);
            due("taken", x.line(1, 2), 1);
            due("not taken", x.line(2, 2), 0);
            due("the rest of the line", x.take(2), 0);
            due("none left", x.take(1), NOT_POSSIBLE);
            due("steps", x.count(11), 5);
        });
        all.of("(where it is on the line it stays)", () -> {
            Walks x = new Walks();
            hearAll(x, "0000", 0);
            due("an empty line", x.take(1), NOT_POSSIBLE);
        });
        all.of("The reader takes symbols, as many as there are outputs at a time; each time is a step.", () -> {
            due("two are a step of two outputs", withHeard("??", 0).count(11), 1);
            due("six are three", withHeard("??????", 0).count(11), 3);
            Walks x = withCode(1, 2, 1, 3);
            hearAll(x, "???", 0);
            due("three are a step of three outputs", x.count(11), 1);
            hearAll(x, "??????", 0);
            due("six are two", x.count(11), 3);
        });
        all.of("Returns how many bits were released so far", () -> {
            hearAll(new Walks(), "?".repeat(18), 0);
            hearAll(new Walks(), "?".repeat(20), 1);
            hearAll(new Walks(), "?".repeat(60), 21);
            hearAll(withCode(1, 2, 1, 3), "?".repeat(60), 11);
        });
        all.of("This is an act.", () -> {
            act(withHeard("01", 0), "hear", Face::hear, 0);
            Walks x = withAll();
            act(x, "hear over a whole history", Face::hear, 3);
        });
    }

    private static void refusedText(String text, int want) {
        Walks x = withHeard("0?11", 0);
        write(x, text);
        same(x, "hear() of \"" + text + "\"", Face::hear, want);
    }

    private static void hearFaults(Sentences all) {
        all.of("-100 minus the fault of the text if it has one (which is an error)", () -> {
            refusedText("x0", -100);
            refusedText("1x", -101);
            refusedText("0?x1", -102);
            refusedText("?".repeat(59) + "x", -159);
        });
        all.of("The fault of the text is the index, from 0, of the first character that is not allowed", () -> {
            refusedText("0xx?", -101);
            refusedText("xx", -100);
            refusedText("?".repeat(58) + "xx", -158);
        });
        all.of("or 0 if the text is empty", () -> {
            same(new Walks(), "empty at first", Face::hear, -100);
            refusedText("", -100);
        });
        all.of("a text of symbols may have \"?\", too (erased)", () -> {
            Walks x = new Walks();
            hearAll(x, "??", 0);
            dueMetrics(x, 0, NONE, 0, NONE);
            due("reset", x.reset(), 1);
            hearAll(x, "1?", 0);
            dueMetrics(x, 1, NONE, 0, NONE);
            for (int sign : new int[] {'/', '2', '>', '@', 0, ' ', 191, 255, 304, 305, 319, 0xFF1F, 0xFFFF}) {
                write(x, "1" + (char) sign);
                due("hear with the sign " + sign, x.hear(), -101);
            }
        });
    }

    private static void hearRefused(Sentences all) {
        all.of("BAD_VALUE if its symbols are no whole number of steps", () -> {
            for (int length : new int[] {1, 3, 5, 59}) {
                refusedText("1".repeat(length), BAD_VALUE);
            }
            Walks x = withCode(5, 63, 63, 63);
            for (int length : new int[] {1, 2, 4, 5, 58, 59}) {
                write(x, "1".repeat(length));
                same(x, length + " symbols by three", Face::hear, BAD_VALUE);
            }
            hearAll(x, "111", 0);
            hearAll(x, "1".repeat(60), 12);
            due("steps", x.count(11), 21);
        });
        all.of("NOT_POSSIBLE if the reading is finished", () -> {
            Walks x = withSent("1");
            write(x, "00");
            due("finish", x.finish(true), 0);
            same(x, "finished with nothing taken", Face::hear, NOT_POSSIBLE);
            due("reset", x.reset(), 0);
            due("hear", x.hear(), 0);
            due("finish", x.finish(false), 1);
            same(x, "finished", Face::hear, NOT_POSSIBLE);
            due("undo", x.undo(), 3);
            due("not finished", x.hear(), 0);
        });
        all.of("FULL if there would be more than 80 steps", () -> {
            Walks x = withHeard("0".repeat(60), 21);
            due("hear", x.hear(), 51);
            same(x, "ten too many", Face::hear, FULL);
            write(x, "0".repeat(42));
            same(x, "one too many", Face::hear, FULL);
            write(x, "0".repeat(40));
            due("just room", x.hear(), 71);
            due("steps", x.count(11), 80);
            write(x, "00");
            same(x, "full", Face::hear, FULL);
        });
        all.of("FULL if there would be more than 80 steps", () -> {
            Walks x = withCode(1, 2, 1, 3);
            sendEighty(x, zeros(40));
            due("take", x.take(79), 70);
            write(x, "000000");
            same(x, "one too many", Face::hear, FULL);
            hearAll(x, "000", 71);
            same(x, "full", Face::hear, FULL);
        });
        all.of("the order of the @return line is the order of the checks", () -> {
            refusedText("01x", -102);
            Walks x = withSent(zeros(40));
            due("send", x.send(), 80);
            due("take", x.take(80), 71);
            write(x, "x");
            same(x, "a fault, no whole number, and full", Face::hear, -100);
            write(x, "0");
            same(x, "no whole number, and full", Face::hear, BAD_VALUE);
            due("finish", x.finish(false), 80);
            same(x, "no whole number, and finished", Face::hear, BAD_VALUE);
            write(x, "0x");
            same(x, "a fault, and finished", Face::hear, -101);
            x.clearText();
            same(x, "empty, and finished", Face::hear, -100);
            write(x, "00");
            same(x, "finished, and full", Face::hear, NOT_POSSIBLE);
        });
    }

    private static void finish(Sentences all) {
        all.promise(10);
        all.of("Finishes the reading.", () -> {
            Walks x = withSent("101");
            due("not finished", x.count(16), 0);
            due("finish", x.finish(false), 0);
            due("finished", x.count(16), 1);
            due("send", x.sendTail(), 5);
            due("flip", x.flip(0), 0);
        });
        all.of("`tail`: whether a tail was sent at the end", () -> {
            // 101 without noise: to 0 come 100 at 3 and 000 at 5.
            Walks x = withSent("101");
            due("take", x.take(3), 0);
            due("without", x.finish(false), 3);
            dueReleased(x, "101");
            due("undo", x.undo(), 2);
            due("with", x.finish(true), 3);
            dueReleased(x, "100");
        });
        all.of("Returns how many bits were released in all", () -> {
            due("none", new Walks().finish(false), 0);
            due("none with a tail", new Walks().finish(true), 0);
            due("one", withHeard("11", 0).finish(false), 1);
            Walks x = new Walks();
            sendEighty(x, "0001".repeat(10));
            due("take", x.take(80), 71);
            due("eighty", x.finish(false), 80);
            dueReleased(x, "0001".repeat(20));
        });
        all.of("NOT_POSSIBLE if the reading is finished, or, with a tail, the state 0 has no metric", () -> {
            for (boolean first : new boolean[] {false, true}) {
                Walks x = withAll();
                due("finish", x.finish(first), 3);
                same(x, "again", w -> w.finish(false), NOT_POSSIBLE);
                same(x, "again, with a tail", w -> w.finish(true), NOT_POSSIBLE);
                due("reset", x.reset(), 3);
                due("nothing taken", x.finish(first), 0);
                same(x, "finished with nothing", w -> w.finish(first), NOT_POSSIBLE);
            }
        });
        all.of("NOT_POSSIBLE if the reading is finished, or, with a tail, the state 0 has no metric", () -> {
            // By bits 0 the state 0 always comes to itself: it has a metric after any number of steps.
            for (int steps = 1; steps <= 7; steps++) {
                Walks x = withCode(5, 63, 63, 63);
                hearAll(x, "1".repeat(3 * steps), 0);
                due("the metric of the state 0", x.metric(0) >= 0 ? 1 : 0, 1);
                due("finish", x.finish(true), steps);
            }
        });
        all.of("This is an act.", () -> {
            act(new Walks(), "finish of nothing", x -> x.finish(false), 0);
            act(withAll(), "finish over a whole history", x -> x.finish(true), 3);
        });
    }

    private static void finishTerms(Sentences all) {
        all.of("the remaining bits of the survivor of the best state are released", () -> {
            Walks x = new Walks();
            due("depth", x.setDepth(2), 10);
            hearAll(x, "1100", 1);
            hearAll(x, "0000", 3);
            dueSurvivor(x, 0, "0000");
            due("finish", x.finish(false), 4);
            dueReleased(x, "1000");
        });
        all.of("with a tail, those of the survivor of the state 0 (those of the tail, too)", () -> {
            Walks x = withSent("1011");
            due("tail", x.sendTail(), 6);
            due("depth", x.setDepth(5), 10);
            due("take", x.take(6), 2);
            due("finish", x.finish(true), 6);
            dueReleased(x, "101100");
            due("wrong", x.wrongBits(), 0);
        });
        all.of("Then nothing can be taken until the reader is reset.", () -> {
            Walks x = withSent("1111");
            write(x, "11");
            due("take", x.take(1), 0);
            due("finish", x.finish(false), 1);
            same(x, "take", w -> w.take(1), NOT_POSSIBLE);
            same(x, "hear", Face::hear, NOT_POSSIBLE);
            due("reset", x.reset(), 1);
            due("take", x.take(1), 0);
            due("hear", x.hear(), 0);
        });
    }

    private static void reset(Sentences all) {
        all.promise(11);
        all.of("Resets the reader: it has taken nothing, and is at the beginning of the line; nothing was released.",
            () -> {
                Walks x = new Walks();
                due("depth", x.setDepth(2), 10);
                sendEighty(x, "1".repeat(40));
                due("flip", x.flip(0), 0);
                due("erase", x.erase(159), 0);
                int[] before = Told.asItIs(x);
                due("take", x.take(80), 79);
                due("finish", x.finish(false), 80);
                due("reset", x.reset(), 80);
                int[] after = Told.asItIs(x);
                for (int i = 0; i < after.length; i++) {
                    boolean isHistory = Told.NAMES.get(i).equals("count(17)");
                    due(Told.NAMES.get(i), after[i], isHistory ? after[i] : before[i]);
                }
                due("the whole line again", x.take(80), 79);
            });
        all.of("Returns how many steps it had taken.", () -> {
            due("none", new Walks().reset(), 0);
            due("one heard", withHeard("00", 0).reset(), 1);
            Walks x = withSent("111");
            due("take", x.take(2), 0);
            hearAll(x, "??????", 0);
            due("of both", x.reset(), 5);
            due("none since", x.reset(), 0);
            due("finish", x.finish(true), 0);
            due("finished with none", x.reset(), 0);
            due("not finished", x.count(16), 0);
        });
        all.of("This is an act.", () -> {
            act(new Walks(), "reset of nothing", Face::reset, 0);
            act(withAll(), "reset over a whole history", Face::reset, 3);
        });
    }

    private static void released(Sentences all) {
        all.promise(20);
        all.of("`bit`: a bit that was released, from 0", () -> {
            Walks x = withSent("110100110101");
            due("ten", x.take(10), 1);
            dueReleased(x, "1");
            due("two more", x.take(2), 3);
            dueReleased(x, "110");
            due("finish", x.finish(false), 12);
            dueReleased(x, "110100110101");
        });
        all.of("Returns 0 or 1", () -> {
            Walks x = new Walks();
            sendEighty(x, zeros(39) + "1");
            due("take", x.take(80), 71);
            due("the last released", x.released(70), 0);
            due("finish", x.finish(false), 80);
            due("the last of eighty", x.released(79), 1);
            due("the middle", x.released(39), 1);
            same(x, "it changes nothing", w -> w.released(79), 1);
        });
        all.of("UNKNOWN", () -> {
            due("nothing", new Walks().released(0), UNKNOWN);
            Walks x = withHeard(zeros(18), 0);
            due("none yet", x.released(0), UNKNOWN);
            hearAll(x, "0000", 2);
            for (int bit : new int[] {-1, 2, 3, 11, 79, 80, Integer.MIN_VALUE, Integer.MAX_VALUE}) {
                due("released(" + bit + ")", x.released(bit), UNKNOWN);
            }
            same(x, "behind the last", w -> w.released(2), UNKNOWN);
            due("finish", x.finish(false), 11);
            due("behind all", x.released(11), UNKNOWN);
            due("reset", x.reset(), 11);
            due("nothing since", x.released(0), UNKNOWN);
        });
    }

    private static void metric(Sentences all) {
        all.promise(21);
        all.of("`state`: a state of the code", () -> {
            for (int memory = 1; memory <= 5; memory++) {
                Walks x = withCode(memory, 1, 1, 0);
                int last = (1 << memory) - 1;
                hearAll(x, zeros(2 * memory), 0);
                due("the first", x.metric(0), 0);
                due("the last", x.metric(last) >= 0 ? 1 : x.metric(last), 1);
                due("behind it", x.metric(last + 1), UNKNOWN);
                due("ahead", x.metric(-1), UNKNOWN);
            }
        });
        all.of("Returns its metric", () -> {
            Walks x = withHeard("11", 0);
            dueMetrics(x, 2, NONE, 0, NONE, UNKNOWN);
            hearAll(x, "10", 0);
            dueMetrics(x, 3, 0, 3, 2, UNKNOWN);
            same(x, "it changes nothing", w -> w.metric(3), 2);
        });
        all.of("Returns its metric", () -> {
            // Here a bit 1 costs 1, and a bit 0, which all walks to the state 0 end in, costs 2.
            Walks x = withCode(1, 2, 2, 2);
            hearAll(x, "110".repeat(20), 11);
            due("after 20 steps", x.metric(1), 20);
            due("after 20 steps", x.metric(0), 21);
            due("hear", x.hear(), 31);
            due("hear", x.hear(), 51);
            due("hear", x.hear(), 71);
            due("after 80 steps", x.metric(1), 80);
            due("after 80 steps", x.metric(0), 81);
        });
        all.of("UNKNOWN", () -> {
            Walks x = withAll();
            for (int state : new int[] {-1, 8, 9, 31, 32, Integer.MIN_VALUE, Integer.MAX_VALUE}) {
                due("metric(" + state + ")", x.metric(state), UNKNOWN);
            }
            same(x, "behind the last", w -> w.metric(8), UNKNOWN);
            due("fewer states", x.setCode(1, 1, 1, 0), 2);
            due("of those that were", x.metric(2), UNKNOWN);
        });
        all.of("NONE if it has none", () -> {
            Walks x = new Walks();
            same(x, "nothing taken", w -> w.metric(3), NONE);
            hearAll(x, "00", 0);
            due("one step", x.metric(1), NONE);
            due("one step", x.metric(3), NONE);
            hearAll(x, "00", 0);
            due("two steps", x.metric(1), 3);
            due("reset", x.reset(), 2);
            dueMetrics(x, 0, NONE, NONE, NONE);
        });
    }

    private static void survivor(Sentences all) {
        all.promise(22);
        all.of("`state`: a state of the code", () -> {
            Walks x = withCode(5, 1, 1, 0);
            hearAll(x, "?".repeat(10), 0);
            dueSurvivor(x, 0, "00000");
            dueSurvivor(x, 31, "11111");
            dueSurvivor(x, 16, "00001");
            due("behind", x.survivor(32, 0), UNKNOWN);
        });
        all.of("0 for the latest bit of its survivor, 1 for the one before, and so on", () -> {
            Walks x = withHeard("111001", 0);
            dueSurvivor(x, 0, "100");
            dueSurvivor(x, 1, "110");
            dueSurvivor(x, 2, "101");
            due("finish", x.finish(true), 3);
            dueSurvivor(x, 2, "101");
        });
        all.of("Returns the bit", () -> {
            Walks x = new Walks();
            sendEighty(x, "1" + zeros(39));
            due("take", x.take(80), 71);
            due("the latest", x.survivor(0, 0), 0);
            due("the first", x.survivor(0, 79), 1);
            due("the second", x.survivor(0, 78), 0);
            due("the latest of another", x.survivor(3, 0), 1);
            same(x, "it changes nothing", w -> w.survivor(0, 79), 1);
        });
        all.of("The survivor of a state with a metric is the row of bits of the walk that came to it,"
            + " from the beginning on.", () -> {
                Walks x = new Walks();
                due("depth", x.setDepth(2), 10);
                sendAll(x, "110100");
                due("take", x.take(6), 5);
                dueSurvivor(x, 0, "110100");
                due("finish", x.finish(false), 6);
                dueSurvivor(x, 0, "110100");
            });
    }

    private static void survivorRefused(Sentences all) {
        all.of("UNKNOWN", () -> {
            Walks x = withAll();
            for (int state : new int[] {-1, 8, 9, 31, 32, Integer.MIN_VALUE, Integer.MAX_VALUE}) {
                due("survivor(" + state + ", 0)", x.survivor(state, 0), UNKNOWN);
            }
            same(x, "behind the last", w -> w.survivor(8, 0), UNKNOWN);
        });
        all.of("BAD_VALUE if back is negative", () -> {
            Walks x = withAll();
            due("nothing taken", new Walks().survivor(0, -1), BAD_VALUE);
            due("-1", x.survivor(7, -1), BAD_VALUE);
            due("the least", x.survivor(0, Integer.MIN_VALUE), BAD_VALUE);
            same(x, "negative", w -> w.survivor(0, -2), BAD_VALUE);
        });
        all.of("NONE if the state has no metric, or its survivor has not so many", () -> {
            Walks x = new Walks();
            due("no bits at first", x.survivor(0, 0), NONE);
            hearAll(x, "??", 0);
            same(x, "no metric", w -> w.survivor(3, 0), NONE);
            due("the only bit", x.survivor(2, 0), 1);
            same(x, "not so many", w -> w.survivor(2, 1), NONE);
            due("far from so many", x.survivor(2, 80), NONE);
            due("as far as can be", x.survivor(2, Integer.MAX_VALUE), NONE);
        });
        all.of("NONE if the state has no metric, or its survivor has not so many", () -> {
            Walks x = new Walks();
            sendEighty(x, zeros(40));
            due("take", x.take(80), 71);
            due("the first bit", x.survivor(3, 79), 0);
            same(x, "not so many", w -> w.survivor(3, 80), NONE);
            due("reset", x.reset(), 80);
            due("none since", x.survivor(0, 0), NONE);
        });
        all.of("the order of the @return line is the order of the checks", () -> {
            Walks x = new Walks();
            due("state and back", x.survivor(4, -1), UNKNOWN);
            due("state and back", x.survivor(-1, Integer.MIN_VALUE), UNKNOWN);
            due("state, and not so many", x.survivor(4, 80), UNKNOWN);
            due("negative, and no metric", x.survivor(3, -1), BAD_VALUE);
        });
    }

    private static void agreed(Sentences all) {
        all.promise(23);
        all.of("Tells how many of the first bits the survivors of all states with a metric have in common.", () -> {
            due("nothing taken", new Walks().agreed(), 0);
            due("one step", withHeard("00", 0).agreed(), 0);
            Walks x = withCode(5, 63, 1, 0);
            sendAll(x, zeros(6));
            for (int steps = 1; steps <= 5; steps++) {
                due("take", x.take(1), 0);
                due("all rows of bits are left", x.agreed(), 0);
            }
        });
        all.of("Tells how many of the first bits the survivors of all states with a metric have in common.", () -> {
            Walks x = withHeard("111000010111", 0);
            dueSurvivor(x, 0, "101100");
            dueSurvivor(x, 1, "101110");
            dueSurvivor(x, 2, "101101");
            dueSurvivor(x, 3, "101111");
            due("four", x.agreed(), 4);
            due("finish", x.finish(false), 6);
            due("released or not", x.agreed(), 4);
            due("reset", x.reset(), 6);
            due("none since", x.agreed(), 0);
        });
        all.of("Returns the number of bits.", () -> {
            // Each symbol is the bit itself: all but the latest bit are alike.
            Walks x = withCode(1, 2, 2, 0);
            sendEighty(x, "1101".repeat(10));
            due("take", x.take(1), 0);
            due("none", x.agreed(), 0);
            due("take", x.take(1), 0);
            due("one", x.agreed(), 1);
            due("take", x.take(78), 71);
            due("all but one", x.agreed(), 79);
            same(x, "it changes nothing", Face::agreed, 79);
        });
        all.of("Returns the number of bits.", () -> {
            // All is erased, so that the first bits of all are 0 to the last ones, which the state has.
            Walks x = withCode(5, 63, 63, 63);
            hearAll(x, "?".repeat(60), 11);
            due("all but the state's bits", x.agreed(), 15);
        });
    }
}
