/** Sentences with boundary cases of the chapter on count: promise 27. */
final class CountBounds extends Checks {
    private CountBounds() {
    }

    static void into(Sentences all) {
        all.promise(27);
        ofTheCode(all);
        ofTheLine(all);
        ofTheReader(all);
        ofTheRest(all);
    }

    private static void dueCount(Face x, int what, int want) {
        due("count(" + what + ")", x.count(what), want);
    }

    private static void ofTheCode(Sentences all) {
        all.of("0 for the memory", () -> {
            dueCount(withCode(1, 1, 1, 0), 0, 1);
            dueCount(withCode(5, 1, 1, 0), 0, 5);
        });
        all.of("1 for the outputs", () -> {
            dueCount(withCode(1, 1, 1, 0), 1, 2);
            dueCount(withCode(1, 1, 1, 1), 1, 3);
        });
        all.of("2 to 4 for the taps (NONE for the third one if there are only two)", () -> {
            dueCounts(withCode(5, 63, 1, 32), 5, 3, 63, 1, 32);
            Walks x = withCode(5, 1, 63, 1);
            dueCounts(x, 5, 3, 1, 63, 1);
            due("only two", x.setCode(5, 1, 63, 0), 2);
            same(x, "the third one", w -> w.count(4), NONE);
            due("undo", x.undo(), 1);
            dueCount(x, 4, 1);
        });
        all.of("5 for the depth", () -> {
            Walks x = new Walks();
            dueCount(x, 5, 10);
            due("setDepth", x.setDepth(2), 10);
            dueCount(x, 5, 2);
            due("setDepth", x.setDepth(40), 2);
            dueCount(x, 5, 40);
        });
    }

    private static void ofTheLine(Sentences all) {
        all.of("6 for the bits that were sent", () -> {
            Walks x = new Walks();
            dueCount(x, 6, 0);
            sendEighty(x, zeros(40));
            dueCount(x, 6, 80);
        });
        all.of("7 for the symbols on the line", () -> {
            Walks x = new Walks();
            dueCount(x, 7, 0);
            sendEighty(x, zeros(40));
            dueCount(x, 7, 160);
            x = withCode(5, 1, 1, 1);
            sendEighty(x, zeros(40));
            due("take", x.take(1), 0);
            dueCount(x, 7, 240);
        });
        all.of("8 for the register of the sender", () -> {
            Walks x = withCode(5, 1, 1, 1);
            dueCount(x, 8, 0);
            sendAll(x, "1");
            dueCount(x, 8, 16);
            sendAll(x, "1111");
            dueCount(x, 8, 31);
            due("tail", x.sendTail(), 10);
            dueCount(x, 8, 0);
        });
        all.of("9 for symbols that are erased", () -> {
            Walks x = withCode(5, 63, 63, 63);
            sendEighty(x, zeros(40));
            dueCount(x, 9, 0);
            for (int symbol = 0; symbol < 240; symbol++) {
                due("erase", x.erase(symbol), 0);
            }
            dueCount(x, 9, 240);
            dueCount(x, 10, 0);
            due("setCode", x.setCode(1, 1, 1, 0), 2);
            dueCount(x, 9, 0);
        });
        all.of("10 for those that are flipped (neither erased nor what was sent)", () -> {
            Walks x = withCode(5, 63, 63, 63);
            sendEighty(x, zeros(40));
            dueCount(x, 10, 0);
            for (int symbol = 0; symbol < 240; symbol++) {
                due("flip", x.flip(symbol), 1);
            }
            dueCount(x, 10, 240);
            due("erase", x.erase(239), 1);
            dueCount(x, 10, 239);
            due("flip back", x.flip(0), 0);
            dueCount(x, 10, 238);
            dueCount(x, 9, 1);
        });
    }

    private static void ofTheReader(Sentences all) {
        all.of("11 for the steps that the reader has taken", () -> {
            Walks x = withHeard("00", 0);
            dueCount(x, 11, 1);
            sendEighty(x, zeros(40));
            due("take", x.take(79), 71);
            dueCount(x, 11, 80);
            due("finish", x.finish(false), 80);
            dueCount(x, 11, 80);
            due("reset", x.reset(), 80);
            dueCount(x, 11, 0);
        });
        all.of("12 for the bits that were released", () -> {
            Walks x = withHeard(zeros(18), 0);
            dueCount(x, 12, 0);
            hearAll(x, "00", 1);
            dueCount(x, 12, 1);
            due("finish", x.finish(false), 10);
            dueCount(x, 12, 10);
            due("reset", x.reset(), 10);
            dueCount(x, 12, 0);
        });
        all.of("13 for the best state, 14 for its metric", () -> {
            Walks x = new Walks();
            dueCount(x, 13, 0);
            dueCount(x, 14, 0);
            hearAll(x, "11", 0);
            dueCount(x, 13, 2);
            dueCount(x, 14, 0);
            hearAll(x, "110?", 0);
            dueMetrics(x, 2, 1, 1, 2);
            dueCount(x, 13, 1);
            dueCount(x, 14, 1);
            due("finish", x.finish(true), 3);
            dueCount(x, 13, 1);
            dueCount(x, 14, 1);
            x = withCode(5, 32, 32, 32);
            hearAll(x, "1".repeat(15), 0);
            dueCount(x, 13, 31);
            dueCount(x, 14, 0);
        });
        all.of("15 for the states with a metric", () -> {
            Walks x = withCode(5, 32, 32, 32);
            dueCount(x, 15, 1);
            for (int steps = 1; steps <= 6; steps++) {
                hearAll(x, "111", 0);
                dueCount(x, 15, Math.min(32, 1 << steps));
            }
            due("reset", x.reset(), 6);
            dueCount(x, 15, 1);
        });
        all.of("16 for whether the reading is finished (1, otherwise 0)", () -> {
            Walks x = new Walks();
            dueCount(x, 16, 0);
            due("finish", x.finish(true), 0);
            dueCount(x, 16, 1);
            due("undo", x.undo(), 0);
            dueCount(x, 16, 0);
            due("finish", x.finish(false), 0);
            dueCount(x, 16, 1);
            due("reset", x.reset(), 0);
            dueCount(x, 16, 0);
        });
    }

    private static void ofTheRest(Sentences all) {
        all.of("17 for the states in the history", () -> {
            Walks x = new Walks();
            for (int acts = 0; acts <= 6; acts++) {
                dueCount(x, 17, Math.min(4, acts));
                due("reset", x.reset(), 0);
            }
            due("undo", x.undo(), 3);
            dueCount(x, 17, 3);
        });
        all.of("18 for the length of the text", () -> {
            Walks x = new Walks();
            dueCount(x, 18, 0);
            write(x, "x".repeat(60));
            due("type", x.type('x'), FULL);
            dueCount(x, 18, 60);
            due("clearText", x.clearText(), 60);
            dueCount(x, 18, 0);
        });
        all.of("Returns the number", () -> {
            Walks x = withAll();
            for (int i = 0; i <= 18; i++) {
                int what = i;
                due("not an error", x.count(i) >= 0 ? 1 : 0, 1);
                same(x, "it changes nothing", w -> w.count(what), x.count(i));
            }
        });
        all.of("BAD_VALUE", () -> {
            Walks x = withAll();
            same(x, "below", w -> w.count(-1), BAD_VALUE);
            same(x, "above", w -> w.count(19), BAD_VALUE);
            for (int what : new int[] {-2, -5, 20, 21, 256, Integer.MIN_VALUE, Integer.MAX_VALUE}) {
                due("count(" + what + ")", x.count(what), BAD_VALUE);
            }
        });
    }
}
