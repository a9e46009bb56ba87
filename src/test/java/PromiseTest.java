/** For each promise of the document: ordinary inputs, the edges it names, and wrong inputs. */
public final class PromiseTest extends Checks {
    public static void main(String[] args) {
        Runnable[] promises = {
            PromiseTest::newObject, PromiseTest::setCode, PromiseTest::setDepth, PromiseTest::send,
            PromiseTest::sendTail, PromiseTest::flip, PromiseTest::erase, PromiseTest::take, PromiseTest::hear,
            PromiseTest::finish, PromiseTest::reset, PromiseTest::type, PromiseTest::clearText, PromiseTest::undo,
            PromiseTest::keep, PromiseTest::restore, PromiseTest::step, PromiseTest::line, PromiseTest::sent,
            PromiseTest::released, PromiseTest::metric, PromiseTest::survivor, PromiseTest::agreed,
            PromiseTest::freeDistance, PromiseTest::hasIdleRing, PromiseTest::wrongBits, PromiseTest::count};
        for (int i = 0; i < promises.length; i++) {
            about("promise " + (i + 1));
            promises[i].run();
        }
        end("promises: " + promises.length);
    }

    // ---- the promises, in order

    private static void newObject() {
        Walks x = new Walks();
        dueCounts(x, 2, 2, 7, 5, NONE, 10, 0, 0, 0, 0, 0, 0, 0, 0, 0, 1, 0, 0, 0);
        dueMetrics(x, 0, NONE, NONE, NONE, UNKNOWN);
        due("restore()", x.restore(), NONE);
        due("undo()", x.undo(), NONE);
        due("UNKNOWN", LikelyWalks.UNKNOWN, UNKNOWN);
        due("BAD_VALUE", LikelyWalks.BAD_VALUE, BAD_VALUE);
        due("FULL", LikelyWalks.FULL, FULL);
        due("NOT_POSSIBLE", LikelyWalks.NOT_POSSIBLE, NOT_POSSIBLE);
        due("NONE", LikelyWalks.NONE, NONE);
    }

    private static void setCode() {
        Walks x = withSent("1011");
        due("setDepth", x.setDepth(3), 10);
        due("take", x.take(4), 2);
        due("setCode", x.setCode(3, 15, 1, 8), 3);
        dueCounts(x, 3, 3, 15, 1, 8, 3, 0, 0, 0, 0, 0, 0, 0, 0, 0, 1, 0, 4, 4);
        dueMetrics(x, 0, NONE, NONE, NONE, NONE, NONE, NONE, NONE, UNKNOWN);
        due("undo", x.undo(), 3);
        dueCounts(x, 2, 2, 7, 5, NONE, 3, 4, 8, 3, 0, 0, 4, 2);
        due("finish", x.finish(false), 4);
        due("setCode", x.setCode(2, 7, 5, 0), 2);
        due("reading after a new code", x.count(16), 0);
        due("take of an empty line", x.take(1), NOT_POSSIBLE);
        due("the same code is an act", x.setCode(2, 7, 5, 0), 2);
        due("history", x.count(17), 4);
        for (int memory = 1; memory <= 5; memory++) {
            int highest = (1 << (memory + 1)) - 1;
            due("highest taps", x.setCode(memory, highest, highest, highest), 3);
            due("lowest taps", x.setCode(memory, 1, 1, 0), 2);
            int[] outside = {-1, highest + 1, Integer.MIN_VALUE, Integer.MAX_VALUE};
            for (int taps : outside) {
                due("first taps", x.setCode(memory, taps, 1, 1), BAD_VALUE);
                due("second taps", x.setCode(memory, 1, taps, 1), BAD_VALUE);
                due("third taps", x.setCode(memory, 1, 1, taps), BAD_VALUE);
            }
            due("no first taps", x.setCode(memory, 0, 1, 1), BAD_VALUE);
            due("no second taps", x.setCode(memory, 1, 0, 1), BAD_VALUE);
            dueCounts(x, memory, 2, 1, 1, NONE);
        }
        for (int memory : new int[] {Integer.MIN_VALUE, -1, 0, 6, 31, 32, Integer.MAX_VALUE}) {
            due("memory " + memory, x.setCode(memory, 1, 1, 1), BAD_VALUE);
        }
        due("memory that stays", x.count(0), 5);
    }

    private static void setDepth() {
        Walks x = new Walks();
        due("least", x.setDepth(2), 10);
        due("most", x.setDepth(40), 2);
        due("count", x.count(5), 40);
        due("so already", x.setDepth(40), NONE);
        for (int depth : new int[] {Integer.MIN_VALUE, -1, 0, 1, 41, Integer.MAX_VALUE}) {
            due("depth " + depth, x.setDepth(depth), BAD_VALUE);
        }
        due("history", x.count(17), 2);
        sendAll(x, "1");
        due("after sending", x.setDepth(5), 40);
        due("take", x.take(1), 0);
        due("bad ahead of not possible", x.setDepth(1), BAD_VALUE);
        due("not possible", x.setDepth(6), NOT_POSSIBLE);
        due("not possible ahead of none", x.setDepth(5), NOT_POSSIBLE);
        due("reset", x.reset(), 1);
        due("none", x.setDepth(5), NONE);
        due("finish", x.finish(false), 0);
        due("finished without a step", x.setDepth(6), 5);
        due("undo", x.undo(), 3);
        due("count", x.count(5), 5);
    }

    private static void send() {
        Walks x = withSent("10110");
        // Window by window: 100, 010, 101, 110, 011 against the taps 111 and 101.
        dueLine(x, "1110000101");
        due("register", x.count(8), 1);
        due("the text stays", x.send(), 10);
        due("text", x.count(18), 5);
        due("undo", x.undo(), 1);
        due("sent", x.count(6), 5);
        due("register", x.count(8), 1);
        dueLine(x, "1110000101");
        x = new Walks();
        due("empty text", x.send(), -100);
        write(x, "0?1");
        due("erased", x.send(), -101);
        write(x, "x");
        due("letter", x.send(), -100);
        write(x, "01 2");
        due("space", x.send(), -102);
        write(x, zeros(59) + "/");
        due("last", x.send(), -159);
        due("nothing sent", x.count(6), 0);
        due("no act", x.count(17), 0);
        write(x, zeros(40));
        due("forty", x.send(), 40);
        due("eighty", x.send(), 80);
        due("symbols", x.count(7), 160);
        write(x, "1");
        due("full", x.send(), FULL);
        write(x, "2");
        due("fault ahead of full", x.send(), -100);
        due("history", x.count(17), 2);
        due("three outputs", x.setCode(1, 2, 1, 3), 3);
        write(x, "110");
        due("three bits", x.send(), 3);
        dueLine(x, "101110011");
        write(x, zeros(38) + "1");
        due("bits", x.send(), 42);
        due("register", x.count(8), 1);
    }

    private static void sendTail() {
        Walks x = withSent("11");
        due("register", x.count(8), 3);
        due("tail", x.sendTail(), 4);
        due("register", x.count(8), 0);
        dueLine(x, "11010111");
        due("bit", x.sent(3), 0);
        due("act", x.count(17), 2);
        due("undo", x.undo(), 1);
        due("sent", x.count(6), 2);
        due("memory 5", x.setCode(5, 63, 1, 32), 3);
        for (int i = 1; i <= 16; i++) {
            due("tail", x.sendTail(), 5 * i);
        }
        due("symbols", x.count(7), 240);
        due("full", x.sendTail(), FULL);
        due("history", x.count(17), 4);
        due("memory 3", x.setCode(3, 1, 1, 0), 2);
        write(x, zeros(39));
        due("send", x.send(), 39);
        due("send", x.send(), 78);
        due("full by one", x.sendTail(), FULL);
        due("sent", x.count(6), 78);
        due("undo", x.undo(), 3);
        write(x, zeros(38));
        due("send", x.send(), 77);
        due("just room", x.sendTail(), 80);
    }

    private static void flip() {
        Walks x = withSent("1010");
        dueLine(x, "11100010");
        due("flip", x.flip(0), 0);
        due("flip", x.flip(3), 1);
        dueLine(x, "01110010");
        due("what was sent", x.line(0, 1), 1);
        due("flipped", x.count(10), 2);
        due("back", x.flip(3), 0);
        due("flipped", x.count(10), 1);
        due("last", x.flip(7), 1);
        due("erase", x.erase(6), 1);
        int history = x.count(17);
        due("erased", x.flip(6), NOT_POSSIBLE);
        for (int symbol : new int[] {-1, 8, 240, Integer.MIN_VALUE, Integer.MAX_VALUE}) {
            due("flip(" + symbol + ")", x.flip(symbol), UNKNOWN);
        }
        due("history", x.count(17), history);
        due("take", x.take(2), 0);
        due("taken", x.flip(3), NOT_POSSIBLE);
        due("not taken", x.flip(4), 1);
        due("undo", x.undo(), 3);
        due("line", x.line(4, 0), 0);
        due("reset", x.reset(), 2);
        due("no longer taken", x.flip(3), 1);
        write(x, "11");
        due("hear", x.hear(), 0);
        due("heard, not taken", x.flip(0), 1);
        due("empty line", new Walks().flip(0), UNKNOWN);
    }

    private static void erase() {
        Walks x = withSent("1010");
        due("one", x.erase(0), 1);
        due("zero", x.erase(3), 0);
        dueLine(x, "?11?0010");
        due("what was sent", x.line(3, 1), 0);
        due("erased", x.count(9), 2);
        due("not flipped", x.count(10), 0);
        due("flip", x.flip(4), 1);
        due("a flipped one", x.erase(4), 1);
        due("flipped", x.count(10), 0);
        due("again", x.erase(4), NONE);
        due("history", x.count(17), 4);
        for (int symbol : new int[] {-1, 8, 240, Integer.MIN_VALUE, Integer.MAX_VALUE}) {
            due("erase(" + symbol + ")", x.erase(symbol), UNKNOWN);
        }
        due("take", x.take(2), 0);
        due("taken", x.erase(1), NOT_POSSIBLE);
        due("taken ahead of none", x.erase(3), NOT_POSSIBLE);
        due("not taken", x.erase(5), 0);
        due("undo", x.undo(), 3);
        due("line", x.line(5, 0), 0);
        due("reset", x.reset(), 2);
        due("no longer taken", x.erase(3), NONE);
        due("no longer taken", x.erase(2), 1);
    }

    private static void take() {
        Walks x = withSent("1011000");
        due("flip", x.flip(3), 1);
        due("erase", x.erase(5), 0);
        due("depth", x.setDepth(4), 10);
        due("too many", x.take(8), NOT_POSSIBLE);
        for (int steps : new int[] {0, -1, 81, Integer.MIN_VALUE, Integer.MAX_VALUE}) {
            due("take(" + steps + ")", x.take(steps), BAD_VALUE);
        }
        due("history", x.count(17), 4);
        due("most steps are no bad value", x.take(80), NOT_POSSIBLE);
        due("three", x.take(3), 0);
        due("one more", x.take(1), 1);
        due("steps", x.count(11), 4);
        due("undo", x.undo(), 3);
        due("steps", x.count(11), 3);
        due("again", x.take(2), 2);
        dueReleased(x, "10");
        due("two are left", x.take(3), NOT_POSSIBLE);
        due("the rest", x.take(2), 4);
        due("none left", x.take(1), NOT_POSSIBLE);
        due("finish", x.finish(false), 7);
        due("bad ahead of finished", x.take(0), BAD_VALUE);
        due("finished", x.take(1), NOT_POSSIBLE);
        takeWithTies();
        takeUntilFull();
    }

    /** With all erased, all metrics are 0: the lowest state survives and the best is the state 0. */
    private static void takeWithTies() {
        Walks x = withSent("11111");
        for (int i = 0; i < 10; i++) {
            x.erase(i);
        }
        due("depth", x.setDepth(2), 10);
        due("take", x.take(5), 4);
        dueMetrics(x, 0, 0, 0, 0);
        dueSurvivor(x, 0, "00000");
        dueSurvivor(x, 1, "00010");
        dueSurvivor(x, 2, "00001");
        dueSurvivor(x, 3, "00011");
        dueReleased(x, "0000");
        due("wrong", x.wrongBits(), 4);
    }

    private static void takeUntilFull() {
        Walks x = withHeard("??", 0);
        write(x, zeros(40));
        due("send", x.send(), 40);
        due("send", x.send(), 80);
        due("too many of both", x.take(80), FULL);
        due("just room", x.take(79), 71);
        due("full", x.take(1), FULL);
        due("not possible ahead of full", x.take(2), NOT_POSSIBLE);
        due("finish", x.finish(false), 80);
        due("not possible ahead of full", x.take(1), NOT_POSSIBLE);
    }

    private static void hear() {
        // The same steps as on the line of 1011000 with one flipped and one erased.
        Walks x = withHeard("11110?", 0);
        dueMetrics(x, 2, 1, 1, 2);
        due("steps", x.count(11), 3);
        due("the text stays", x.count(18), 6);
        due("act", x.count(17), 1);
        due("undo", x.undo(), 0);
        due("steps", x.count(11), 0);
        sendAll(x, "11");
        write(x, "0011");
        due("hear", x.hear(), 0);
        due("the line stays", x.line(0, 2), 0);
        due("take from the start", x.take(1), 0);
        due("taken", x.line(1, 2), 1);
        due("not taken", x.line(2, 2), 0);
        due("steps", x.count(11), 3);
        hearErrors();
        due("three outputs", x.setCode(1, 2, 1, 3), 3);
        write(x, "0?0");
        due("three a step", x.hear(), 0);
        dueMetrics(x, 0, 2);
        write(x, "1111");
        due("no whole number", x.hear(), BAD_VALUE);
        write(x, zeros(60));
        due("twenty", x.hear(), 12);
        due("twenty", x.hear(), 32);
        due("twenty", x.hear(), 52);
        due("one too many", x.hear(), FULL);
        write(x, zeros(57));
        due("just room", x.hear(), 71);
    }

    private static void hearErrors() {
        Walks x = new Walks();
        due("empty", x.hear(), -100);
        write(x, "01x");
        due("fault ahead of bad", x.hear(), -102);
        write(x, "0?1");
        due("no whole number", x.hear(), BAD_VALUE);
        due("no act", x.count(17), 0);
        due("finish", x.finish(false), 0);
        due("bad ahead of finished", x.hear(), BAD_VALUE);
        write(x, "01");
        due("finished", x.hear(), NOT_POSSIBLE);
        write(x, "0a");
        due("fault ahead of finished", x.hear(), -101);
        due("reset", x.reset(), 0);
        write(x, zeros(60));
        due("thirty", x.hear(), 21);
        due("sixty", x.hear(), 51);
        due("full", x.hear(), FULL);
        write(x, zeros(41));
        due("bad ahead of full", x.hear(), BAD_VALUE);
        write(x, zeros(42));
        due("full by one", x.hear(), FULL);
        due("finish", x.finish(false), 60);
        due("not possible ahead of full", x.hear(), NOT_POSSIBLE);
    }

    private static void finish() {
        Walks x = withSent("101");
        due("take", x.take(3), 0);
        due("best", x.count(13), 2);
        due("best", x.finish(false), 3);
        dueReleased(x, "101");
        due("finished", x.count(16), 1);
        due("metric stays", x.metric(2), 0);
        due("again", x.finish(false), NOT_POSSIBLE);
        due("again", x.finish(true), NOT_POSSIBLE);
        due("undo", x.undo(), 2);
        due("not finished", x.count(16), 0);
        due("none released", x.count(12), 0);
        due("tail", x.finish(true), 3);
        // All walks to the state 0 end in 00: 000 with the price 4, and 100 with 3.
        dueReleased(x, "100");
        due("reset", x.reset(), 3);
        due("nothing taken", x.finish(true), 0);
        due("nothing released", x.count(12), 0);
        due("act", x.count(17), 4);
        due("depth", new Walks().setDepth(2), 10);
        finishBehindReleased();
    }

    /** Bits that were released stay, though the survivor that is told at last has others. */
    private static void finishBehindReleased() {
        Walks x = new Walks();
        due("depth", x.setDepth(2), 10);
        write(x, "1100");
        due("hear", x.hear(), 1);
        dueReleased(x, "1");
        write(x, "0000");
        due("hear", x.hear(), 3);
        dueSurvivor(x, 0, "0000");
        due("finish", x.finish(true), 4);
        dueReleased(x, "1000");
    }

    private static void reset() {
        Walks x = withSent("1100");
        due("depth", x.setDepth(2), 10);
        due("take", x.take(3), 2);
        due("finish", x.finish(false), 3);
        due("reset", x.reset(), 3);
        dueCounts(x, 2, 2, 7, 5, NONE, 2, 4, 8, 0, 0, 0, 0, 0, 0, 0, 1, 0, 4, 4);
        due("not released", x.released(0), UNKNOWN);
        due("not taken", x.line(0, 2), 0);
        due("survivor", x.survivor(0, 0), NONE);
        due("none taken", x.reset(), 0);
        due("from the beginning", x.take(4), 3);
        dueReleased(x, "110");
        due("undo", x.undo(), 3);
        due("undo", x.undo(), 2);
        due("undo", x.undo(), 1);
        due("finished", x.count(16), 1);
        due("steps", x.count(11), 3);
    }

    private static void type() {
        Walks x = new Walks();
        char[] any = {'0', '1', '?', 'x', (char) 0, (char) 65535, (char) 233, (char) 0x130, (char) 0x661};
        for (int i = 0; i < any.length; i++) {
            due("type", x.type(any[i]), i + 1);
        }
        due("no act", x.count(17), 0);
        due("fault", x.hear(), -103);
        due("clear", x.clearText(), any.length);
        for (int i = 1; i <= 60; i++) {
            due("type", x.type('1'), i);
        }
        due("full", x.type('1'), FULL);
        due("full", x.type('z'), FULL);
        due("length", x.count(18), 60);
        due("all are bits", x.send(), 60);
        due("undo", x.undo(), 0);
        due("the text stays", x.count(18), 60);
        for (char c = 0; c < 400; c++) {
            x = new Walks();
            x.type(c);
            boolean isBit = c == '0' || c == '1';
            due("send of " + (int) c, x.send() > 0 ? 1 : x.send(), isBit ? 1 : -100);
        }
    }

    private static void clearText() {
        Walks x = new Walks();
        due("empty", x.clearText(), 0);
        write(x, "10");
        due("two", x.clearText(), 2);
        due("empty then", x.clearText(), 0);
        due("length", x.count(18), 0);
        due("fault", x.send(), -100);
        due("no act", x.count(17), 0);
        due("type", x.type('1'), 1);
        due("send", x.send(), 1);
        due("bit", x.sent(0), 1);
    }

    private static void undo() {
        Walks x = new Walks();
        due("empty", x.undo(), NONE);
        for (int depth = 2; depth <= 7; depth++) {
            x.setDepth(depth);
        }
        due("four at most", x.count(17), 4);
        for (int left = 3; left >= 0; left--) {
            due("undo", x.undo(), left);
            due("depth", x.count(5), 3 + left);
        }
        due("no more", x.undo(), NONE);
        due("depth", x.count(5), 3);
        sendAll(x, "101");
        due("flip", x.flip(1), 0);
        due("take", x.take(2), 0);
        due("finish", x.finish(false), 2);
        write(x, "1");
        due("undo", x.undo(), 3);
        dueCounts(x, 2, 2, 7, 5, NONE, 3, 3, 6, 2, 0, 1, 2, 0);
        due("text stays", x.count(18), 1);
        // 10 10 was taken: 00 and 11 cost 1 each, then 00, 10, 11, 01 cost 1, 0, 1, 2.
        dueMetrics(x, 2, 1, 2, 3);
        due("undo", x.undo(), 2);
        dueMetrics(x, 0, NONE, NONE, NONE);
        due("undo", x.undo(), 1);
        dueLine(x, "111000");
        due("undo", x.undo(), 0);
        due("sent", x.count(6), 0);
        due("register", x.count(8), 0);
        undoErrors();
        undoOfAllRows();
    }

    /** Every row is full, down to its last place, and all of it comes back over other rows as full. */
    private static void undoOfAllRows() {
        Walks x = new Walks();
        readEighty(x, 5, 39, 43, 61, "1101");
        int[] before = Told.asItIs(x);
        due("keep", x.keep(), 80);
        readEighty(x, 5, 63, 33, 1, "0010");
        due("restore", x.restore(), 80);
        dueRows(x, before);
        due("undo", x.undo(), 3);
        due("the first bit", x.sent(0), 0);
        due("the last bit", x.released(79), 0);
        due("reset", x.reset(), 80);
        due("take", x.take(80), 71);
        before = Told.asItIs(x);
        due("code", x.setCode(5, 39, 43, 61), 3);
        sendAll(x, "1".repeat(60));
        due("tail", x.sendTail(), 65);
        due("take", x.take(65), 56);
        due("undo", x.undo(), 3);
        due("undo", x.undo(), 2);
        due("undo", x.undo(), 1);
        due("undo", x.undo(), 0);
        dueRows(x, before);
    }

    private static void readEighty(Walks x, int memory, int first, int second, int third, String bits) {
        due("code", x.setCode(memory, first, second, third), 3);
        sendEighty(x, bits.repeat(10));
        due("take", x.take(80), 71);
        due("finish", x.finish(false), 80);
        due("wrong", x.wrongBits(), 0);
        dueReleased(x, bits.repeat(20));
    }

    private static void dueRows(Walks x, int[] want) {
        int[] got = Told.asItIs(x);
        for (int i = 0; i < want.length; i++) {
            if (!Told.NAMES.get(i).equals("count(17)") && !Told.NAMES.get(i).equals("count(18)")) {
                due(Told.NAMES.get(i), got[i], want[i]);
            }
        }
    }

    /** Neither errors nor NONE nor what is told goes into the history. */
    private static void undoErrors() {
        Walks x = withSent("11");
        x.setCode(0, 0, 0, 0);
        x.setDepth(10);
        x.setDepth(1);
        x.flip(4);
        x.erase(-1);
        x.take(3);
        x.hear();
        x.keep();
        x.agreed();
        x.freeDistance();
        due("send and hear", x.count(17), 2);
        due("undo", x.undo(), 1);
        due("undo", x.undo(), 0);
        due("undo", x.undo(), NONE);
    }

    private static void keep() {
        Walks x = new Walks();
        due("empty", x.keep(), 0);
        sendAll(x, "1101");
        due("erase", x.erase(2), 0);
        due("four", x.keep(), 4);
        due("no act", x.count(17), 2);
        due("another code", x.setCode(1, 1, 2, 0), 2);
        due("restore", x.restore(), 4);
        due("the later one", x.line(2, 0), 2);
        due("memory", x.count(0), 2);
        due("in place", x.undo(), 3);
        due("keep", x.keep(), 0);
        due("undo", x.undo(), 2);
        due("restore", x.restore(), 0);
        due("memory", x.count(0), 1);
    }

    private static void restore() {
        Walks x = new Walks();
        due("none", x.restore(), NONE);
        due("no act", x.count(17), 0);
        sendAll(x, "1101");
        due("depth", x.setDepth(2), 10);
        due("take", x.take(3), 2);
        due("keep", x.keep(), 4);
        write(x, "0?x");
        due("another code", x.setCode(3, 9, 5, 1), 3);
        due("restore", x.restore(), 4);
        dueCounts(x, 2, 2, 7, 5, NONE, 2, 4, 8, 2, 0, 0, 3, 2, 1, 0, 4, 0, 4, 3);
        dueReleased(x, "11");
        dueSurvivor(x, 1, "110");
        due("flip", x.flip(7), 1);
        due("finish", x.finish(false), 3);
        due("it stays", x.restore(), 4);
        due("line", x.line(7, 0), 0);
        due("not finished", x.count(16), 0);
        due("act", x.undo(), 3);
        due("finished", x.count(16), 1);
        due("line", x.line(7, 0), 1);
        due("undo keeps the snapshot", x.restore(), 4);
        due("clearText keeps it", x.clearText(), 3);
        due("restore", x.restore(), 4);
    }

    private static void step() {
        Walks x = new Walks();
        int[] after = {0, 2, 0, 2, 1, 3, 1, 3};
        int[] symbols = {0, 3, 3, 0, 2, 1, 1, 2};
        for (int i = 0; i < 8; i++) {
            due("after", x.step(i / 2, i % 2, 0), after[i]);
            due("symbols", x.step(i / 2, i % 2, 1), symbols[i]);
        }
        for (int state : new int[] {-1, 4, Integer.MIN_VALUE, Integer.MAX_VALUE}) {
            due("state " + state, x.step(state, 0, 0), UNKNOWN);
            due("state first", x.step(state, 2, 2), UNKNOWN);
        }
        for (int bad : new int[] {-1, 2, Integer.MIN_VALUE, Integer.MAX_VALUE}) {
            due("bit " + bad, x.step(0, bad, 0), BAD_VALUE);
            due("what " + bad, x.step(0, 0, bad), BAD_VALUE);
        }
        due("three", x.setCode(5, 32, 1, 33), 3);
        due("newest bit", x.step(0, 1, 1), 5);
        due("oldest bit", x.step(1, 0, 1), 3);
        due("both", x.step(31, 1, 1), 6);
        due("last state", x.step(31, 1, 0), 31);
        due("behind it", x.step(32, 0, 0), UNKNOWN);
    }

    private static void line() {
        Walks x = withSent("10");
        dueLine(x, "1110");
        due("flip", x.flip(1), 0);
        due("erase", x.erase(2), 1);
        due("take", x.take(1), 0);
        int[][] want = {{1, 1, 1}, {0, 1, 1}, {2, 1, 0}, {0, 0, 0}};
        for (int symbol = 0; symbol < 4; symbol++) {
            for (int what = 0; what < 3; what++) {
                due("line(" + symbol + ", " + what + ")", x.line(symbol, what), want[symbol][what]);
            }
            due("what", x.line(symbol, 3), BAD_VALUE);
            due("what", x.line(symbol, -1), BAD_VALUE);
        }
        for (int far : FAR) {
            due("symbol", x.line(far, 0), UNKNOWN);
            due("what", x.line(0, far), BAD_VALUE);
        }
        due("symbol first", x.line(4, 3), UNKNOWN);
        due("symbol first", x.line(-1, 3), UNKNOWN);
    }

    private static void sent() {
        Walks x = withSent("1101");
        int[] bits = {1, 1, 0, 1};
        for (int i = 0; i < 4; i++) {
            due("sent(" + i + ")", x.sent(i), bits[i]);
        }
        due("behind", x.sent(4), UNKNOWN);
        due("ahead", x.sent(-1), UNKNOWN);
        due("tail", x.sendTail(), 6);
        due("of the tail", x.sent(4), 0);
        due("of the tail", x.sent(5), 0);
        due("behind", x.sent(6), UNKNOWN);
        for (int far : FAR) {
            due("far", x.sent(far), UNKNOWN);
        }
        due("noise", x.flip(0), 0);
        due("is no matter", x.sent(0), 1);
        due("none", new Walks().sent(0), UNKNOWN);
    }

    private static void released() {
        Walks x = withSent("110100110101");
        due("none yet", x.released(0), UNKNOWN);
        due("nine", x.take(9), 0);
        due("none yet", x.released(0), UNKNOWN);
        due("ten", x.take(1), 1);
        dueReleased(x, "1");
        due("two more", x.take(2), 3);
        dueReleased(x, "110");
        due("finish", x.finish(false), 12);
        dueReleased(x, "110100110101");
        due("ahead", x.released(-1), UNKNOWN);
        for (int far : FAR) {
            due("far", x.released(far), UNKNOWN);
        }
    }

    private static void metric() {
        Walks x = withHeard("11", 0);
        dueMetrics(x, 2, NONE, 0, NONE, UNKNOWN);
        write(x, "10");
        due("hear", x.hear(), 0);
        dueMetrics(x, 3, 0, 3, 2, UNKNOWN);
        write(x, "01");
        due("hear", x.hear(), 0);
        dueMetrics(x, 1, 2, 1, 3);
        due("ahead", x.metric(-1), UNKNOWN);
        for (int far : FAR) {
            due("far", x.metric(far), UNKNOWN);
        }
        due("memory 5", x.setCode(5, 1, 1, 0), 2);
        due("last", x.metric(31), NONE);
        due("behind", x.metric(32), UNKNOWN);
        write(x, "1111");
        due("hear", x.hear(), 0);
        dueMetrics(x, 4, NONE, NONE, NONE, NONE, NONE, NONE, NONE, 4, NONE);
    }

    private static void survivor() {
        Walks x = withHeard("111001", 0);
        dueSurvivor(x, 0, "100");
        dueSurvivor(x, 1, "110");
        dueSurvivor(x, 2, "101");
        due("state", x.survivor(4, 0), UNKNOWN);
        due("state", x.survivor(-1, 0), UNKNOWN);
        due("state first", x.survivor(4, -1), UNKNOWN);
        due("back", x.survivor(0, -1), BAD_VALUE);
        for (int far : FAR) {
            due("far", x.survivor(far, 0), UNKNOWN);
            due("far back", x.survivor(0, far), far < 0 ? BAD_VALUE : NONE);
        }
        x = new Walks();
        due("nothing taken", x.survivor(0, 0), NONE);
        due("no metric", x.survivor(1, 0), NONE);
        due("bad ahead of none", x.survivor(1, -1), BAD_VALUE);
        x = withHeard("0000", 0);
        due("reached", x.survivor(3, 1), 1);
        due("no more", x.survivor(3, 2), NONE);
        x = withHeard(zeros(60), 21);
        due("hear", x.hear(), 51);
        write(x, zeros(40));
        due("hear", x.hear(), 71);
        due("the first bit", x.survivor(3, 79), 0);
        due("the last bit", x.survivor(3, 0), 1);
        due("no more", x.survivor(3, 80), NONE);
    }

    private static void agreed() {
        Walks x = new Walks();
        due("nothing taken", x.agreed(), 0);
        x = withHeard("11", 0);
        due("one step", x.agreed(), 0);
        x = withHeard("111000010111", 0);
        // 101100 without noise; all four survivors begin with 1011.
        dueSurvivor(x, 0, "101100");
        dueSurvivor(x, 1, "101110");
        dueSurvivor(x, 2, "101101");
        dueSurvivor(x, 3, "101111");
        due("four", x.agreed(), 4);
        due("finish does not matter", x.finish(false), 6);
        due("four", x.agreed(), 4);
        x = withHeard(zeros(20), 1);
        due("agreed", x.agreed(), 8);
        due("reset", x.reset(), 10);
        due("agreed", x.agreed(), 0);
        due("undo", x.undo(), 1);
        due("agreed", x.agreed(), 8);
        // With one tap alone on the newest bit no walks ever part in all but their last bits.
        due("code", x.setCode(1, 2, 2, 0), 2);
        write(x, "1100111100");
        due("hear", x.hear(), 0);
        due("all but one", x.agreed(), 4);
    }

    private static void freeDistance() {
        Walks x = new Walks();
        due("7, 5", x.freeDistance(), 5);
        int[][] codes = {{3, 15, 13, 0, 6}, {4, 19, 29, 0, 7}, {5, 43, 61, 0, 8}, {2, 7, 7, 5, 8},
            {3, 11, 13, 15, 10}, {4, 21, 27, 31, 12}, {5, 39, 43, 61, 13}, {1, 1, 1, 0, 2}, {1, 3, 3, 3, 6},
            {2, 7, 7, 7, 6}, {5, 63, 63, 63, 6}, {1, 2, 1, 0, 2}};
        for (int[] code : codes) {
            x.setCode(code[0], code[1], code[2], code[3]);
            due("memory " + code[0] + ", taps " + code[1] + " " + code[2], x.freeDistance(), code[4]);
        }
        due("no act", x.count(17), 4);
    }

    private static void hasIdleRing() {
        Walks x = new Walks();
        due("7, 5", x.hasIdleRing(), 0);
        int[][] codes = {{1, 3, 3, 0, 1}, {2, 6, 6, 0, 1}, {2, 5, 3, 0, 1}, {2, 6, 5, 3, 1}, {2, 7, 7, 0, 1},
            {2, 7, 7, 7, 1}, {3, 1, 1, 0, 0}, {3, 9, 9, 0, 1}, {5, 33, 33, 33, 1}, {5, 33, 33, 32, 0},
            {4, 30, 3, 0, 1}, {4, 30, 7, 0, 0}, {1, 2, 2, 2, 0}, {5, 32, 32, 0, 0}};
        for (int[] code : codes) {
            x.setCode(code[0], code[1], code[2], code[3]);
            due("memory " + code[0] + ", taps " + code[1] + " " + code[2], x.hasIdleRing(), code[4]);
        }
    }

    private static void wrongBits() {
        Walks x = new Walks();
        due("nothing", x.wrongBits(), 0);
        sendAll(x, "1101");
        due("nothing released", x.wrongBits(), 0);
        write(x, zeros(4));
        due("hear", x.hear(), 0);
        due("finish", x.finish(false), 2);
        due("two of two", x.wrongBits(), 2);
        due("reset", x.reset(), 2);
        write(x, zeros(12));
        due("hear", x.hear(), 0);
        due("finish", x.finish(true), 6);
        due("more released than sent", x.wrongBits(), 3);
        due("reset", x.reset(), 6);
        due("take", x.take(4), 0);
        due("finish", x.finish(false), 4);
        due("none wrong", x.wrongBits(), 0);
        x = new Walks();
        write(x, "1101");
        due("hear", x.hear(), 0);
        due("finish", x.finish(false), 2);
        due("nothing sent", x.wrongBits(), 0);
    }

    private static void count() {
        Walks x = new Walks();
        due("code", x.setCode(3, 15, 13, 9), 3);
        sendAll(x, "11011");
        dueCounts(x, 3, 3, 15, 13, 9, 10, 5, 15, 6, 0, 0, 0, 0, 0, 0, 1, 0, 2, 5);
        due("flip", x.flip(14) + x.flip(13), 2 - x.line(14, 1) - x.line(13, 1));
        due("erase", x.erase(13), 1 - x.line(13, 1));
        due("erase", x.erase(12), x.line(12, 1));
        due("erased", x.count(9), 2);
        due("flipped", x.count(10), 1);
        due("depth", x.setDepth(2), 10);
        due("take", x.take(1), 0);
        dueCounts(x, 3, 3, 15, 13, 9, 2, 5, 15, 6, 2, 1, 1, 0, 4, 0, 2, 0, 4, 5);
        due("take", x.take(1), 1);
        due("states with a metric", x.count(15), 4);
        due("best", x.count(13), 6);
        due("take", x.take(1), 2);
        due("states with a metric", x.count(15), 8);
        due("finish", x.finish(false), 3);
        due("finished", x.count(16), 1);
        due("released", x.count(12), 3);
        due("steps", x.count(11), 3);
        for (int what : new int[] {-1, 19, 20, Integer.MIN_VALUE, Integer.MAX_VALUE}) {
            due("count(" + what + ")", x.count(what), BAD_VALUE);
        }
        due("two outputs", x.setCode(1, 3, 2, 0), 2);
        due("no third taps", x.count(4), NONE);
        write(x, "0?");
        due("hear", x.hear(), 0);
        due("of several the lowest", x.count(13), 0);
        write(x, "?1");
        due("hear", x.hear(), 1);
        due("the least metric", x.count(14), x.metric(x.count(13)));
    }
}
