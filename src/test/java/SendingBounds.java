/** Sentences with boundary cases of the chapters on sending: promises 4 to 7, 18, 19 and 26. */
final class SendingBounds extends Checks {
    private static final int[] NO_BITS = {'/', '2', '9', ' ', 0, 10, 'O', 'l', '-', 130, 176, 177, 255, 256, 304, 305,
        0x660, 0x661, 0xFF10, 0xFF11, 0xFFFF};

    private SendingBounds() {
    }

    static void into(Sentences all) {
        send(all);
        sendFaults(all);
        sendTail(all);
        flip(all);
        flipRefused(all);
        erase(all);
        eraseRefused(all);
        line(all);
        sent(all);
        wrongBits(all);
    }

    private static void send(Sentences all) {
        all.promise(4);
        all.of("Sends the bits of the text, which stays.", () -> {
            Walks x = withSent("10110");
            dueSent(x, "10110");
            dueLine(x, "1110000101");
            due("text", x.count(18), 5);
            due("again", x.send(), 10);
            dueSent(x, "1011010110");
            due("register", x.count(8), 1);
        });
        all.of("Returns how many bits were sent in all then", () -> {
            Walks x = new Walks();
            write(x, "1");
            due("one", x.send(), 1);
            due("two", x.send(), 2);
            write(x, "0".repeat(60));
            due("sixty more", x.send(), 62);
        });
        all.of("FULL if that would be more than 80", () -> {
            Walks x = withSent(zeros(60));
            write(x, zeros(19) + "1");
            due("just room", x.send(), 80);
            due("the last bit", x.sent(79), 1);
            due("the last symbol", x.line(159, 0), 1);
            same(x, "twenty more", Face::send, FULL);
            write(x, "1");
            same(x, "one more", Face::send, FULL);
        });
        all.of("FULL if that would be more than 80", () -> {
            Walks x = withSent(zeros(60));
            write(x, "1".repeat(21));
            same(x, "one too many", Face::send, FULL);
            write(x, "1".repeat(60));
            same(x, "forty too many", Face::send, FULL);
            sendAll(x, "1".repeat(19));
            write(x, "11");
            same(x, "two where one has room", Face::send, FULL);
            sendAll(x, "1");
            due("eighty", x.count(6), 80);
        });
        all.of("a row of at most 80 bits that were sent (with the bits of tails)", () -> {
            Walks x = withSent(zeros(39));
            due("send", x.send(), 78);
            due("tail", x.sendTail(), 80);
            write(x, "0");
            same(x, "one more", Face::send, FULL);
        });
        all.of("The line has the symbols of all these steps, one after the other", () -> {
            Walks x = withCode(1, 2, 1, 3);
            sendAll(x, "110");
            dueLine(x, "101110011");
            sendAll(x, "1");
            dueLine(x, "101110011101");
        });
        all.of("This is an act.", () -> {
            act(withSent("1"), "send", Face::send, 2);
            Walks x = withAll();
            write(x, "11");
            act(x, "send over a whole history", Face::send, 9);
        });
    }

    private static void refusedText(String text, int want) {
        Walks x = withSent("101");
        write(x, text);
        same(x, "send() of \"" + text + "\"", Face::send, want);
    }

    private static void sendFaults(Sentences all) {
        all.of("-100 minus the fault of the text if it has one (which is an error)", () -> {
            refusedText("x", -100);
            refusedText("1x", -101);
            refusedText("01x", -102);
            refusedText("x01", -100);
            refusedText(zeros(59) + "x", -159);
            same(withAll(), "a history, noise and a snapshot", Face::send, -102);
        });
        all.of("or 0 if the text is empty", () -> {
            same(new Walks(), "empty at first", Face::send, -100);
            refusedText("", -100);
        });
        all.of("The fault of the text is the index, from 0, of the first character that is not allowed", () -> {
            refusedText("0xx", -101);
            refusedText("10?0x", -102);
            refusedText("xx", -100);
            refusedText(zeros(58) + "xx", -158);
        });
        all.of("A text of bits is one or more characters 0 and 1", () -> {
            Walks x = new Walks();
            for (int sign : NO_BITS) {
                write(x, "1" + (char) sign);
                due("send with the sign " + sign, x.send(), -101);
            }
            write(x, "?");
            due("erased is no bit", x.send(), -100);
            sendAll(x, "0");
            sendAll(x, "1");
            dueSent(x, "01");
        });
        all.of("the order of the @return line is the order of the checks", () -> {
            Walks x = withSent(zeros(40));
            due("send", x.send(), 80);
            write(x, "?");
            same(x, "a fault, and full", Face::send, -100);
            write(x, zeros(59) + "x");
            same(x, "a fault at the end, and full", Face::send, -159);
            x.clearText();
            due("empty, and full", x.send(), -100);
        });
    }

    private static void sendTail(Sentences all) {
        all.promise(5);
        all.of("Sends a tail: as many bits 0 as the memory is.", () -> {
            for (int memory = 1; memory <= 5; memory++) {
                Walks x = withCode(memory, 1, 1, 0);
                String bits = "1".repeat(memory);
                sendAll(x, bits);
                due("register", x.count(8), (1 << memory) - 1);
                due("tail", x.sendTail(), 2 * memory);
                due("register", x.count(8), 0);
                dueSent(x, bits + zeros(memory));
            }
        });
        all.of("Returns how many bits were sent in all then", () -> {
            Walks x = new Walks();
            due("the first bits", x.sendTail(), 2);
            due("more", x.sendTail(), 4);
            due("with a text that is faulty", x.type('x'), 1);
            due("which is no matter", x.sendTail(), 6);
        });
        all.of("FULL if that would be more than 80", () -> {
            for (int memory = 1; memory <= 5; memory++) {
                Walks x = withCode(memory, 1, 1, 1);
                sendAll(x, zeros(40));
                sendAll(x, "1".repeat(40 - memory));
                due("just room", x.sendTail(), 80);
                due("register", x.count(8), 0);
                due("the last symbol", x.line(239, 0), 1);
                same(x, "no more", Face::sendTail, FULL);
            }
        });
        all.of("FULL if that would be more than 80", () -> {
            for (int memory = 1; memory <= 5; memory++) {
                Walks x = withCode(memory, 1, 1, 1);
                sendAll(x, zeros(40));
                sendAll(x, "1".repeat(40 - memory + 1));
                same(x, "one too many", Face::sendTail, FULL);
            }
        });
        all.of("This is an act.", () -> {
            act(new Walks(), "sendTail", Face::sendTail, 2);
            act(withAll(), "sendTail over a whole history", Face::sendTail, 10);
        });
    }

    private static void flip(Sentences all) {
        all.promise(6);
        all.of("Flips a symbol on the line: 0 becomes 1, and 1 becomes 0.", () -> {
            Walks x = withSent("1010");
            dueLine(x, "11100010");
            due("1", x.flip(0), 0);
            due("0", x.flip(3), 1);
            dueLine(x, "01110010");
            due("back", x.flip(0), 1);
            dueLine(x, "11110010");
            due("what was sent stays", x.line(3, 1), 0);
        });
        all.of("`symbol`: a symbol of the line, from 0", () -> {
            Walks x = withSent("1010");
            due("the first", x.flip(0), 0);
            due("the last", x.flip(7), 1);
            dueLine(x, "01100011");
            x = new Walks();
            sendEighty(x, zeros(40));
            due("the last of 160", x.flip(159), 1);
            x = withCode(5, 1, 1, 1);
            sendEighty(x, zeros(40));
            due("the last of 240", x.flip(239), 1);
            due("one is flipped", x.count(10), 1);
        });
        all.of("Returns what it is then", () -> {
            Walks x = withSent("1");
            for (int i = 0; i < 6; i++) {
                due("flip", x.flip(1), i % 2);
                due("line", x.line(1, 0), i % 2);
            }
        });
        all.of("This is an act.", () -> {
            act(withSent("1"), "flip", x -> x.flip(0), 0);
            Walks x = withAll();
            int symbol = x.line(19, 0);
            act(x, "flip over a whole history", w -> w.flip(19), 1 - symbol);
        });
    }

    private static void flipRefused(Sentences all) {
        all.of("UNKNOWN", () -> {
            Walks x = withSent("1010");
            for (int symbol : new int[] {-1, -2, 8, 9, 159, 239, 240, Integer.MIN_VALUE, Integer.MAX_VALUE}) {
                same(x, "flip(" + symbol + ")", w -> w.flip(symbol), UNKNOWN);
            }
            same(new Walks(), "an empty line", w -> w.flip(0), UNKNOWN);
        });
        all.of("UNKNOWN", () -> {
            Walks x = new Walks();
            sendEighty(x, zeros(40));
            same(x, "behind 160", w -> w.flip(160), UNKNOWN);
            due("a new code", x.setCode(5, 1, 1, 1), 3);
            same(x, "of the line that was", w -> w.flip(0), UNKNOWN);
            sendEighty(x, zeros(40));
            same(x, "behind 240", w -> w.flip(240), UNKNOWN);
            due("undo", x.undo(), 3);
            same(x, "behind 120", w -> w.flip(120), UNKNOWN);
        });
        all.of("NOT_POSSIBLE if it is erased, or the reader took it from the line", () -> {
            Walks x = withSent("1010");
            due("erase", x.erase(0), 1);
            due("erase", x.erase(7), 0);
            same(x, "erased", w -> w.flip(0), NOT_POSSIBLE);
            same(x, "the last, erased", w -> w.flip(7), NOT_POSSIBLE);
            due("beside it", x.flip(6), 0);
        });
        all.of("NOT_POSSIBLE if it is erased, or the reader took it from the line", () -> {
            Walks x = withSent("1010");
            due("take", x.take(2), 0);
            same(x, "the first taken", w -> w.flip(0), NOT_POSSIBLE);
            same(x, "the last taken", w -> w.flip(3), NOT_POSSIBLE);
            due("the first not taken", x.flip(4), 1);
            due("take", x.take(2), 0);
            same(x, "the last of the line", w -> w.flip(7), NOT_POSSIBLE);
            due("finish", x.finish(false), 4);
            same(x, "finished", w -> w.flip(7), NOT_POSSIBLE);
            due("reset", x.reset(), 4);
            due("not taken since", x.flip(0), 0);
        });
        all.of("NOT_POSSIBLE if it is erased, or the reader took it from the line", () -> {
            Walks x = withCode(1, 2, 1, 3);
            sendAll(x, "110");
            due("erase", x.erase(1), 0);
            due("take", x.take(1), 0);
            same(x, "the last of three", w -> w.flip(2), NOT_POSSIBLE);
            same(x, "taken and erased", w -> w.flip(1), NOT_POSSIBLE);
            due("the first not taken", x.flip(3), 0);
            due("finish", x.finish(false), 1);
            due("finished, not taken", x.flip(4), 0);
        });
        all.of("NOT_POSSIBLE if it is erased, or the reader took it from the line", () -> {
            Walks x = withSent("11");
            hearAll(x, "0011", 0);
            due("heard in place of the line", x.flip(0), 0);
            due("take", x.take(1), 0);
            same(x, "taken", w -> w.flip(1), NOT_POSSIBLE);
            due("not taken", x.flip(2), 1);
        });
    }

    private static void erase(Sentences all) {
        all.promise(7);
        all.of("Erases a symbol on the line.", () -> {
            Walks x = withSent("1010");
            due("1", x.erase(1), 1);
            due("0", x.erase(3), 0);
            dueLine(x, "1?1?0010");
            due("what was sent stays", x.line(1, 1), 1);
            due("erased", x.count(9), 2);
        });
        all.of("`symbol`: a symbol of the line, from 0", () -> {
            Walks x = withSent("1010");
            due("the first", x.erase(0), 1);
            due("the last", x.erase(7), 0);
            dueLine(x, "?110001?");
            x = new Walks();
            sendEighty(x, "1".repeat(40));
            due("the last of 160", x.erase(159), 0);
            x = withCode(5, 1, 1, 1);
            sendEighty(x, "1".repeat(40));
            due("the last of 240", x.erase(239), 1);
            due("one is erased", x.count(9), 1);
        });
        all.of("Returns what it was", () -> {
            Walks x = withSent("1010");
            due("a flipped 1", x.flip(0), 0);
            due("erase", x.erase(0), 0);
            due("a flipped 0", x.flip(3), 1);
            due("erase", x.erase(3), 1);
            due("no longer flipped", x.count(10), 0);
        });
        all.of("This is an act.", () -> {
            act(withSent("1"), "erase", x -> x.erase(0), 1);
            Walks x = withAll();
            int symbol = x.line(19, 0);
            act(x, "erase over a whole history", w -> w.erase(19), symbol);
        });
    }

    private static void eraseRefused(Sentences all) {
        all.of("UNKNOWN", () -> {
            Walks x = withSent("1010");
            for (int symbol : new int[] {-1, -2, 8, 9, 159, 239, 240, Integer.MIN_VALUE, Integer.MAX_VALUE}) {
                same(x, "erase(" + symbol + ")", w -> w.erase(symbol), UNKNOWN);
            }
            same(new Walks(), "an empty line", w -> w.erase(0), UNKNOWN);
        });
        all.of("UNKNOWN", () -> {
            Walks x = new Walks();
            sendEighty(x, zeros(40));
            due("erase", x.erase(0), 0);
            same(x, "behind 160", w -> w.erase(160), UNKNOWN);
            due("a new code", x.setCode(5, 1, 1, 1), 3);
            same(x, "of the line that was", w -> w.erase(0), UNKNOWN);
            sendEighty(x, zeros(40));
            dueCounts(x, 5, 3, 1, 1, 1, 10, 80, 240, 0, 0);
            same(x, "behind 240", w -> w.erase(240), UNKNOWN);
        });
        all.of("NOT_POSSIBLE if the reader took it from the line", () -> {
            Walks x = withSent("1010");
            due("take", x.take(2), 0);
            same(x, "the first taken", w -> w.erase(0), NOT_POSSIBLE);
            same(x, "the last taken", w -> w.erase(3), NOT_POSSIBLE);
            due("the first not taken", x.erase(4), 0);
            due("take", x.take(2), 0);
            same(x, "the last of the line", w -> w.erase(7), NOT_POSSIBLE);
            due("finish", x.finish(false), 4);
            same(x, "finished", w -> w.erase(7), NOT_POSSIBLE);
            due("reset", x.reset(), 4);
            due("not taken since", x.erase(0), 1);
        });
        all.of("NOT_POSSIBLE if the reader took it from the line", () -> {
            Walks x = withCode(1, 2, 1, 3);
            sendAll(x, "110");
            hearAll(x, "???", 0);
            due("heard in place of the line", x.erase(0), 1);
            due("take", x.take(1), 0);
            same(x, "the last of three", w -> w.erase(2), NOT_POSSIBLE);
            due("the first not taken", x.erase(3), 1);
            due("finish", x.finish(false), 2);
            due("finished, not taken", x.erase(4), 1);
        });
        all.of("NONE if it is erased already", () -> {
            Walks x = withSent("1010");
            due("erase", x.erase(0), 1);
            due("erase", x.erase(7), 0);
            same(x, "the first again", w -> w.erase(0), NONE);
            same(x, "the last again", w -> w.erase(7), NONE);
        });
        all.of("the order of the @return line is the order of the checks", () -> {
            Walks x = withSent("1010");
            due("erase", x.erase(3), 0);
            due("take", x.take(2), 0);
            same(x, "taken, and erased already", w -> w.erase(3), NOT_POSSIBLE);
        });
    }

    private static void line(Sentences all) {
        all.promise(18);
        all.of("`symbol`: a symbol of the line, from 0", () -> {
            Walks x = withSent("10");
            dueLine(x, "1110");
            x = withCode(1, 1, 1, 1);
            sendEighty(x, "1".repeat(40));
            due("the first", x.line(0, 0), 0);
            due("the last", x.line(239, 0), 1);
            due("the last, as it was sent", x.line(239, 1), 1);
            due("the last, not taken", x.line(239, 2), 0);
        });
        all.of("UNKNOWN", () -> {
            Walks x = withSent("10");
            for (int symbol : new int[] {-1, 4, 5, 239, 240, Integer.MIN_VALUE, Integer.MAX_VALUE}) {
                for (int what = 0; what <= 2; what++) {
                    due("line(" + symbol + ", " + what + ")", x.line(symbol, what), UNKNOWN);
                }
            }
            due("an empty line", new Walks().line(0, 0), UNKNOWN);
            same(x, "behind the end", w -> w.line(4, 0), UNKNOWN);
            x = withCode(1, 1, 1, 1);
            sendEighty(x, zeros(40));
            due("behind 240", x.line(240, 0), UNKNOWN);
            due("undo", x.undo(), 2);
            due("of what was undone", x.line(120, 0), UNKNOWN);
            due("what stays", x.line(119, 0), 0);
        });
        all.of("`what`: 0 for what it is (2 if it is erased), 1 for what was sent", () -> {
            Walks x = withSent("10");
            due("erase", x.erase(0), 1);
            due("flip", x.flip(1), 0);
            due("flip", x.flip(3), 1);
            int[][] want = {{2, 1}, {0, 1}, {1, 1}, {1, 0}};
            for (int symbol = 0; symbol < 4; symbol++) {
                due("what it is", x.line(symbol, 0), want[symbol][0]);
                due("what was sent", x.line(symbol, 1), want[symbol][1]);
            }
        });
        all.of("a symbol is 0, 1, or erased (2)", () -> {
            Walks x = withSent("10110");
            due("erase", x.erase(9), 1);
            dueLine(x, "111000010?");
        });
        all.of("2 for whether the reader took it (1, otherwise 0)", () -> {
            Walks x = withCode(1, 1, 1, 1);
            sendAll(x, "111");
            due("not yet", x.line(0, 2), 0);
            due("take", x.take(2), 0);
            due("the last taken", x.line(5, 2), 1);
            due("the first not taken", x.line(6, 2), 0);
            hearAll(x, "000", 0);
            due("heard", x.line(6, 2), 0);
            due("take", x.take(1), 0);
            due("the last of the line", x.line(8, 2), 1);
            due("reset", x.reset(), 4);
            due("not since", x.line(0, 2), 0);
        });
        all.of("BAD_VALUE", () -> {
            Walks x = withSent("10");
            for (int what : new int[] {-1, 3, 4, Integer.MIN_VALUE, Integer.MAX_VALUE}) {
                due("what " + what, x.line(0, what), BAD_VALUE);
                due("what " + what, x.line(3, what), BAD_VALUE);
            }
            same(x, "what above", w -> w.line(3, 3), BAD_VALUE);
        });
        all.of("the order of the @return line is the order of the checks", () -> {
            due("both", new Walks().line(0, 3), UNKNOWN);
            due("both", withSent("1").line(2, -1), UNKNOWN);
            due("both", withSent("1").line(-1, 3), UNKNOWN);
        });
        all.of("Returns the number", () -> same(withAll(), "it changes nothing", x -> x.line(0, 2), 1));
    }

    private static void sent(Sentences all) {
        all.promise(19);
        all.of("`bit`: a bit that was sent, from 0", () -> {
            Walks x = withSent("1101");
            dueSent(x, "1101");
            due("tail", x.sendTail(), 6);
            dueSent(x, "110100");
            x = new Walks();
            sendEighty(x, zeros(39) + "1");
            due("the last of eighty", x.sent(79), 1);
            due("the one before", x.sent(78), 0);
        });
        all.of("Returns 0 or 1", () -> {
            Walks x = withSent("01");
            due("flip", x.flip(2), 0);
            due("erase", x.erase(0), 0);
            due("noise is no matter", x.sent(0), 0);
            due("noise is no matter", x.sent(1), 1);
            same(x, "it changes nothing", w -> w.sent(1), 1);
        });
        all.of("UNKNOWN", () -> {
            due("nothing sent", new Walks().sent(0), UNKNOWN);
            Walks x = withSent("1101");
            for (int bit : new int[] {-1, 4, 5, 79, 80, 81, Integer.MIN_VALUE, Integer.MAX_VALUE}) {
                due("sent(" + bit + ")", x.sent(bit), UNKNOWN);
            }
            same(x, "behind the end", w -> w.sent(4), UNKNOWN);
            due("undo", x.undo(), 0);
            due("undone", x.sent(0), UNKNOWN);
            sendEighty(x, "1".repeat(40));
            due("behind eighty", x.sent(80), UNKNOWN);
            due("a new code", x.setCode(1, 1, 1, 0), 2);
            due("of the line that was", x.sent(0), UNKNOWN);
        });
    }

    private static void wrongBits(Sentences all) {
        all.promise(26);
        all.of("Tells how far what was released is from what was sent.", () -> {
            due("nothing of both", new Walks().wrongBits(), 0);
            due("nothing released", withSent("1111").wrongBits(), 0);
            Walks x = withHeard("1101", 0);
            due("finish", x.finish(false), 2);
            due("released", x.released(0), 1);
            due("nothing sent", x.wrongBits(), 0);
        });
        all.of("Returns how many of the first bits that were both released and sent differ.", () -> {
            // With these taps each symbol is the bit itself.
            Walks x = withCode(1, 2, 2, 0);
            sendAll(x, "1100");
            hearAll(x, "00", 0);
            due("finish", x.finish(false), 1);
            due("fewer released than sent", x.wrongBits(), 1);
            due("reset", x.reset(), 1);
            hearAll(x, "001100110000", 0);
            due("finish", x.finish(false), 6);
            dueReleased(x, "010100");
            due("more released than sent", x.wrongBits(), 2);
            due("send", x.sendTail(), 5);
            due("as before", x.wrongBits(), 2);
            sendAll(x, "1");
            due("the last of both", x.wrongBits(), 3);
            sendAll(x, "1");
            due("behind the last of both", x.wrongBits(), 3);
        });
        all.of("Returns how many of the first bits that were both released and sent differ.", () -> {
            Walks x = withCode(1, 2, 2, 0);
            sendEighty(x, zeros(40));
            hearAll(x, "1".repeat(60), 21);
            due("hear", x.hear(), 51);
            write(x, "1".repeat(40));
            due("hear", x.hear(), 71);
            due("all that were released", x.wrongBits(), 71);
            due("finish", x.finish(false), 80);
            due("all", x.wrongBits(), 80);
            same(x, "it changes nothing", Face::wrongBits, 80);
        });
    }
}
