/** Sentences with boundary cases of the chapters on texts and on the history: promises 12 to 16. */
final class TextBounds extends Checks {
    private TextBounds() {
    }

    static void into(Sentences all) {
        type(all);
        clearText(all);
        undo(all);
        undoTerms(all);
        undoOfFullRows(all);
        undoOfLastSymbols(all);
        keep(all);
        restore(all);
        restoreOfLastSymbols(all);
    }

    private static void type(Sentences all) {
        all.promise(12);
        all.of("Types a character behind the text.", () -> {
            Walks x = new Walks();
            write(x, "1");
            due("type", x.type('0'), 2);
            due("type", x.type('0'), 3);
            due("type", x.type('1'), 4);
            due("send", x.send(), 4);
            dueSent(x, "1001");
        });
        all.of("`character`: any character", () -> {
            Walks x = new Walks();
            for (int sign = 0; sign <= Character.MAX_VALUE; sign++) {
                if (x.callsLeft() < 6) {
                    x = new Walks();
                }
                boolean isBit = sign == '0' || sign == '1';
                due("clearText", x.clearText() < 3 ? 1 : 0, 1);
                due("type", x.type('1'), 1);
                due("type of " + sign, x.type((char) sign), 2);
                due("hear with " + sign, x.hear(), isBit || sign == '?' ? 0 : -101);
                due("send with " + sign, Math.min(0, x.send()), isBit ? 0 : -101);
            }
        });
        all.of("Returns the length of the text then", () -> {
            Walks x = new Walks();
            for (int length = 1; length <= 60; length++) {
                due("type", x.type('1'), length);
                due("length", x.count(18), length);
            }
            due("all are in the text", x.send(), 60);
        });
        all.of("FULL if it has 60 characters", () -> {
            Walks x = new Walks();
            write(x, "1".repeat(59));
            due("the last one", x.type('0'), 60);
            same(x, "a bit", w -> w.type('1'), FULL);
            same(x, "no bit", w -> w.type('x'), FULL);
            due("send", x.send(), 60);
            due("the last one stays", x.sent(59), 0);
            due("clearText", x.clearText(), 60);
            due("room again", x.type('1'), 1);
        });
        all.of("There is a text of at most 60 characters, empty at first.", () -> {
            Walks x = new Walks();
            write(x, "x".repeat(60));
            same(x, "faults have no more room", w -> w.type('x'), FULL);
            due("length", x.count(18), 60);
        });
        all.of("A state is everything but the text, the history and the snapshot.", () -> {
            Walks x = withAll();
            due("no act", x.type('1'), 4);
            due("history", x.count(17), 4);
            due("undo", x.undo(), 3);
            due("the text stays", x.count(18), 4);
            due("restore", x.restore(), 7);
            due("the text stays", x.count(18), 4);
            due("history", x.count(17), 4);
        });
    }

    private static void clearText(Sentences all) {
        all.promise(13);
        all.of("Empties the text.", () -> {
            Walks x = new Walks();
            write(x, "x".repeat(60));
            due("clearText", x.clearText(), 60);
            due("length", x.count(18), 0);
            due("send", x.send(), -100);
            due("hear", x.hear(), -100);
            due("type", x.type('1'), 1);
            due("send", x.send(), 1);
            dueSent(x, "1");
        });
        all.of("Returns the length that it had.", () -> {
            Walks x = new Walks();
            same(x, "empty at first", Face::clearText, 0);
            due("type", x.type('x'), 1);
            due("one", x.clearText(), 1);
            same(x, "empty since", Face::clearText, 0);
            write(x, "1".repeat(60));
            due("type", x.type('1'), FULL);
            due("sixty", x.clearText(), 60);
        });
        all.of("A state is everything but the text, the history and the snapshot.", () -> {
            Walks x = withAll();
            due("no act", x.clearText(), 3);
            due("history", x.count(17), 4);
            due("undo", x.undo(), 3);
            due("it stays empty", x.count(18), 0);
            due("restore", x.restore(), 7);
            due("it stays empty", x.count(18), 0);
        });
    }

    private static void undo(Sentences all) {
        all.promise(14);
        all.of("Removes and restores the latest state of the history.", () -> {
            Walks x = new Walks();
            Told[] before = new Told[4];
            for (int i = 0; i < 4; i++) {
                before[i] = x.told();
                act(x, i);
            }
            for (int i = 3; i >= 0; i--) {
                due("undo", x.undo(), i);
                x.told().dueSame("undo", before[i]);
            }
        });
        all.of("Returns the number of states that are left", () -> {
            Walks x = new Walks();
            due("reset", x.reset(), 0);
            due("undo of the only one", x.undo(), 0);
            due("history", x.count(17), 0);
            for (int depth = 2; depth <= 4; depth++) {
                x.setDepth(depth);
            }
            due("undo", x.undo(), 2);
            due("undo", x.undo(), 1);
            due("another act", x.setDepth(40), 2);
            due("undo", x.undo(), 1);
            due("depth", x.count(5), 2);
            due("undo", x.undo(), 0);
            due("depth", x.count(5), 10);
        });
        all.of("undo() removes and restores the latest one", () -> {
            Walks x = withAll();
            due("undo", x.undo(), 3);
            due("nothing taken", x.count(11), 0);
            due("undo", x.undo(), 2);
            due("one erased", x.count(9), 1);
            due("undo", x.undo(), 1);
            due("none erased", x.count(9), 0);
            due("undo", x.undo(), 0);
            due("none flipped", x.count(10), 0);
            same(x, "no more", Face::undo, NONE);
        });
        all.of("NONE if the history is empty", () -> {
            Walks x = new Walks();
            same(x, "at first", Face::undo, NONE);
            due("setDepth", x.setDepth(2), 10);
            due("undo", x.undo(), 0);
            same(x, "since", Face::undo, NONE);
            sendAll(x, "1");
            due("undo", x.undo(), 0);
            same(x, "since", Face::undo, NONE);
        });
    }

    /** Four acts of different kinds, each of which answers as is due. */
    private static void act(Walks x, int which) {
        switch (which) {
            case 0 -> due("setCode", x.setCode(3, 11, 13, 15), 3);
            case 1 -> due("tail", x.sendTail(), 3);
            case 2 -> due("erase", x.erase(8), 0);
            default -> due("take", x.take(2), 0);
        }
    }

    private static void undoTerms(Sentences all) {
        all.of("when one more is recorded, the oldest one is dropped", () -> {
            for (int acts = 4; acts <= 9; acts++) {
                Walks x = new Walks();
                for (int depth = 11; depth < 11 + acts; depth++) {
                    due("setDepth", x.setDepth(depth), depth - 1);
                }
                due("four at most", x.count(17), 4);
                for (int left = 3; left >= 0; left--) {
                    due("undo", x.undo(), left);
                    due("depth", x.count(5), 10 + acts - 4 + left);
                }
                same(x, "the oldest ones were dropped", Face::undo, NONE);
            }
        });
        all.of("when one more is recorded, the oldest one is dropped", () -> {
            Walks x = new Walks();
            for (int depth = 11; depth <= 16; depth++) {
                due("setDepth", x.setDepth(depth), depth - 1);
            }
            due("undo", x.undo(), 3);
            due("undo", x.undo(), 2);
            for (int depth = 20; depth <= 22; depth++) {
                due("setDepth", x.setDepth(depth) > 0 ? 1 : 0, 1);
            }
            due("four", x.count(17), 4);
            int[] depths = {21, 20, 14, 13};
            for (int i = 0; i < 4; i++) {
                due("undo", x.undo(), 3 - i);
                due("depth", x.count(5), depths[i]);
            }
            due("no more", x.undo(), NONE);
        });
        all.of("Each call of a method that is described as an act, and returns no error and not NONE, records the state",
            () -> {
                Walks x = withSent("11");
                due("flip", x.flip(0), 0);
                for (int i = 0; i < 6; i++) {
                    due("setCode", x.setCode(0, 1, 1, 1), BAD_VALUE);
                    due("setDepth", x.setDepth(10), NONE);
                    due("flip", x.flip(4), UNKNOWN);
                    due("take", x.take(3), NOT_POSSIBLE);
                    due("restore", x.restore(), NONE);
                    due("keep", x.twin().keep(), 2);
                    due("agreed", x.agreed(), 0);
                    due("count", x.count(99), BAD_VALUE);
                }
                due("two acts alone", x.count(17), 2);
                due("undo", x.undo(), 1);
                dueLine(x, "1101");
                due("undo", x.undo(), 0);
                dueLine(x, "");
            });
        all.of("A call that returns an error or NONE changes nothing.", () -> {
            Walks x = withAll();
            same(x, "setCode", w -> w.setCode(3, 16, 1, 1), BAD_VALUE);
            same(x, "setDepth", w -> w.setDepth(3), NOT_POSSIBLE);
            same(x, "send", Face::send, -102);
            same(x, "flip", w -> w.flip(0), NOT_POSSIBLE);
            same(x, "erase", w -> w.erase(20), NONE);
            same(x, "take", w -> w.take(5), NOT_POSSIBLE);
            same(x, "count", w -> w.count(19), BAD_VALUE);
        });
    }

    /** All rows are full: 80 bits sent, 240 symbols, 80 steps of 32 states, 80 bits released. */
    private static void fillRows(Walks x, int first, int second, int third, String forty) {
        due("setCode", x.setCode(5, first, second, third), 3);
        sendEighty(x, forty);
        due("take", x.take(80), 71);
        due("finish", x.finish(false), 80);
    }

    private static void dueAsBefore(Walks x, int[] before) {
        int[] after = Told.asItIs(x);
        for (int i = 0; i < after.length; i++) {
            boolean isFree = Told.NAMES.get(i).equals("count(17)") || Told.NAMES.get(i).equals("count(18)");
            due(Told.NAMES.get(i), after[i], isFree ? after[i] : before[i]);
        }
    }

    private static void undoOfFullRows(Sentences all) {
        all.of("A state is everything but the text, the history and the snapshot.", () -> {
            Walks x = new Walks();
            fillRows(x, 39, 43, 61, "1101".repeat(10));
            int[] before = Told.asItIs(x);
            due("setCode", x.setCode(5, 63, 33, 1), 3);
            sendAll(x, "0010".repeat(15));
            due("take", x.take(60), 51);
            due("finish", x.finish(false), 60);
            due("undo", x.undo(), 3);
            due("undo", x.undo(), 2);
            due("undo", x.undo(), 1);
            due("undo", x.undo(), 0);
            dueAsBefore(x, before);
        });
        all.of("undo() removes and restores the latest one", () -> {
            Walks x = withSent("1101");
            due("flip", x.flip(0), 0);
            due("undo", x.undo(), 1);
            dueLine(x, "11010100");
            due("erase", x.erase(7), 0);
            due("flip", x.flip(6), 1);
            due("undo", x.undo(), 2);
            dueLine(x, "1101010?");
            due("undo", x.undo(), 1);
            dueLine(x, "11010100");
            due("undo", x.undo(), 0);
            dueLine(x, "");
        });
    }

    /** A full line that ends in symbols 1. */
    private static Walks withLastOnes(int third) {
        Walks x = withCode(5, 32, 32, third);
        sendEighty(x, zeros(39) + "1");
        return x;
    }

    private static void dueLast(Walks x, String call, int symbol) {
        int last = x.count(7) - 1;
        due(call + ", the last symbol", x.line(last, 0), symbol);
        due(call + ", as it was sent", x.line(last, 1), symbol);
    }

    /** Another line, as full, over the one that was: an act, and two more. */
    private static void sendOnlyZeros(Walks x, int third) {
        due("setCode", x.setCode(5, 32, 32, third), third == 0 ? 2 : 3);
        sendEighty(x, zeros(40));
        dueLast(x, "send", 0);
    }

    private static void undoOfLastSymbols(Sentences all) {
        all.of("undo() removes and restores the latest one", () -> {
            for (int third : new int[] {0, 32}) {
                Walks x = withLastOnes(third);
                int last = x.count(7) - 1;
                due("erase", x.erase(last), 1);
                due("undo", x.undo(), 3);
                dueLast(x, "undo of erase", 1);
                due("flip", x.flip(last), 0);
                due("undo", x.undo(), 3);
                dueLast(x, "undo of flip", 1);
                sendOnlyZeros(x, third);
                due("undo", x.undo(), 3);
                due("undo", x.undo(), 2);
                due("undo", x.undo(), 1);
                dueLast(x, "undo of another line", 1);
            }
        });
    }

    private static void restoreOfLastSymbols(Sentences all) {
        all.of("Restores the state of the snapshot, which stays.", () -> {
            for (int third : new int[] {0, 32}) {
                Walks x = withLastOnes(third);
                due("keep", x.keep(), 80);
                due("erase", x.erase(x.count(7) - 1), 1);
                due("restore", x.restore(), 80);
                dueLast(x, "restore over erase", 1);
                sendOnlyZeros(x, third);
                due("restore", x.restore(), 80);
                dueLast(x, "restore over another line", 1);
                due("undo", x.undo(), 3);
                dueLast(x, "undo of restore", 0);
            }
        });
    }

    private static void keep(Sentences all) {
        all.promise(15);
        all.of("Takes a snapshot of the state, in place of the one that was.", () -> {
            Walks x = withSent("1");
            due("keep", x.keep(), 1);
            sendAll(x, "01");
            due("take", x.take(2), 0);
            due("in its place", x.keep(), 3);
            due("setCode", x.setCode(1, 1, 1, 0), 2);
            due("restore", x.restore(), 3);
            dueSent(x, "101");
            due("steps", x.count(11), 2);
        });
        all.of("Takes a snapshot of the state, in place of the one that was.", () -> {
            Walks x = withAll();
            int[] before = Told.asItIs(x);
            due("keep", x.keep(), 7);
            int[] kept = Told.asItIs(x);
            for (int i = 0; i < before.length; i++) {
                due("keep changes nothing else: " + Told.NAMES.get(i), kept[i], before[i]);
            }
            due("flip", x.flip(9) >= 0 ? 1 : 0, 1);
            due("take", x.take(4), 6);
            due("finish", x.finish(true), 7);
            due("restore", x.restore(), 7);
            int[] after = Told.asItIs(x);
            for (int i = 0; i < before.length; i++) {
                due("restored " + Told.NAMES.get(i), after[i], before[i]);
            }
        });
        all.of("Returns the number of bits that were sent.", () -> {
            Walks x = new Walks();
            due("none", x.keep(), 0);
            due("tail", x.sendTail(), 2);
            due("two", x.keep(), 2);
            due("undo", x.undo(), 0);
            due("none again", x.keep(), 0);
            sendEighty(x, "1".repeat(40));
            due("eighty", x.keep(), 80);
        });
        all.of("Each call of a method that is described as an act", () -> {
            Walks x = withSent("1");
            due("keep", x.keep(), 1);
            due("keep is none", x.count(17), 1);
            due("undo", x.undo(), 0);
            due("nothing sent", x.count(6), 0);
        });
    }

    private static void restore(Sentences all) {
        all.promise(16);
        all.of("Restores the state of the snapshot, which stays.", () -> {
            Walks x = withAll();
            due("restore", x.restore(), 7);
            due("nothing taken", x.count(11), 0);
            due("none erased", x.count(9), 0);
            due("take", x.take(7), 6);
            due("it stays", x.restore(), 7);
            due("nothing taken", x.count(11), 0);
            due("setCode", x.setCode(1, 1, 1, 0), 2);
            due("it stays", x.restore(), 7);
            dueCounts(x, 3, 3, 15, 13, 9, 2, 7, 21, 0, 0, 0, 0, 0, 0, 0, 1, 0, 4, 3);
        });
        all.of("Restores the state of the snapshot, which stays.", () -> {
            Walks x = withSent("1");
            due("keep", x.keep(), 1);
            due("undo", x.undo(), 0);
            due("undo leaves it", x.restore(), 1);
            due("clearText", x.clearText(), 1);
            due("clearText leaves it", x.restore(), 1);
            due("reset", x.reset(), 0);
            due("reset leaves it", x.restore(), 1);
        });
        all.of("A state is everything but the text, the history and the snapshot.", () -> {
            Walks x = new Walks();
            fillRows(x, 39, 43, 61, "1101".repeat(10));
            int[] before = Told.asItIs(x);
            due("keep", x.keep(), 80);
            fillRows(x, 63, 33, 1, "0010".repeat(10));
            due("restore", x.restore(), 80);
            dueAsBefore(x, before);
            due("undo", x.undo(), 3);
            due("the code that was", x.count(4), 1);
            due("the last bit", x.sent(79), 0);
        });
        all.of("Restores the state of the snapshot, which stays.", () -> {
            Walks x = withSent("1101");
            due("erase", x.erase(2), 0);
            due("keep", x.keep(), 4);
            for (int i = 0; i < 3; i++) {
                due("flip", x.flip(0), 0);
                due("erase", x.erase(7), 0);
                due("take", x.take(2), 0);
                due("tail", x.sendTail(), 6);
                due("restore", x.restore(), 4);
                dueLine(x, "11?10100");
                due("nothing taken", x.count(11), 0);
                due("register", x.count(8), 2);
            }
        });
        all.of("Returns the number of bits that were sent then", () -> {
            Walks x = new Walks();
            due("keep of nothing", x.keep(), 0);
            sendEighty(x, "1".repeat(40));
            due("nothing", x.restore(), 0);
            due("undo", x.undo(), 2);
            due("keep", x.keep(), 80);
            due("setCode", x.setCode(5, 63, 63, 63), 3);
            due("eighty", x.restore(), 80);
            due("the last bit", x.sent(79), 1);
        });
        all.of("NONE if there is no snapshot", () -> {
            same(new Walks(), "at first", Face::restore, NONE);
            Walks x = withSent("1");
            due("reset", x.reset(), 0);
            same(x, "none was kept", Face::restore, NONE);
            due("undo", x.undo(), 1);
            same(x, "after undo", Face::restore, NONE);
        });
        all.of("This is an act.", () -> {
            act(withAll(), "restore over a whole history", Face::restore, 7);
            Walks x = new Walks();
            due("keep", x.keep(), 0);
            act(x, "restore of what is", Face::restore, 0);
            due("history", x.count(17), 1);
        });
    }
}
