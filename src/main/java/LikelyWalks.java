import java.util.Arrays;

/**
 * Bits that are sent through a register and over a noisy line, and are read
 * again by the likeliest walk. ../shared/DOC.md says what each call promises.
 */
public final class LikelyWalks {

    /** There is no such state, symbol or bit. */
    public static final int UNKNOWN = -1;
    /** Another argument is out of range. */
    public static final int BAD_VALUE = -2;
    /** There is no more room. */
    public static final int FULL = -3;
    /** This is not possible. */
    public static final int NOT_POSSIBLE = -4;
    /** There is no such thing; not an error. */
    public static final int NONE = -5;

    private static final int MOST_MEMORY = 5;
    private static final int MOST_STATES = 1 << MOST_MEMORY;
    private static final int MOST_OUTPUTS = 3;
    private static final int MOST_BITS = 80;
    private static final int MOST_SYMBOLS = MOST_BITS * MOST_OUTPUTS;
    private static final int MOST_CHARACTERS = 60;
    private static final int MOST_PAST = 4;
    private static final int MOST_FREE_DISTANCE = 40;
    private static final int LEAST_DEPTH = 2;
    private static final int MOST_DEPTH = 40;

    private static final int ERASED = 2;
    private static final int NOT_A_SYMBOL = 3;
    private static final int NO_METRIC = -1;
    private static final int NO_WALK = -1;
    private static final int NO_FAULT = -1;
    private static final int FAULT_BASE = -100;

    private final State now;
    private final State kept;
    private boolean isKept;
    private final State[] past;
    private int pastCount;
    private final Text text;
    /** Made once for freeDistance, since all calls share one room. */
    private final int[] distances;

    public LikelyWalks() {
        now = new State();
        kept = new State();
        isKept = false;
        past = new State[MOST_PAST];
        for (int i = 0; i < MOST_PAST; i++) {
            past[i] = new State();
        }
        pastCount = 0;
        text = new Text();
        distances = new int[MOST_STATES];
    }

    // ---- the code

    public int setCode(int memory, int first, int second, int third) {
        if (memory < 1 || memory > MOST_MEMORY) {
            return BAD_VALUE;
        }
        int highest = (2 << memory) - 1;
        if (first < 1 || first > highest || second < 1 || second > highest) {
            return BAD_VALUE;
        }
        if (third < 0 || third > highest) {
            return BAD_VALUE;
        }
        recordNow();
        now.code.choose(memory, first, second, third);
        now.sender.clear();
        now.reader.clear();
        return now.code.outputs;
    }

    public int setDepth(int depth) {
        if (depth < LEAST_DEPTH || depth > MOST_DEPTH) {
            return BAD_VALUE;
        }
        if (now.reader.steps > 0) {
            return NOT_POSSIBLE;
        }
        if (now.depth == depth) {
            return NONE;
        }
        recordNow();
        int previous = now.depth;
        now.depth = depth;
        return previous;
    }

    // ---- sending

    public int send() {
        int fault = text.firstFault(1);
        if (fault != NO_FAULT) {
            return FAULT_BASE - fault;
        }
        if (now.sender.bitCount + text.length > MOST_BITS) {
            return FULL;
        }
        recordNow();
        for (int i = 0; i < text.length; i++) {
            now.sender.push(now.code, text.values[i]);
        }
        return now.sender.bitCount;
    }

    public int sendTail() {
        int length = now.code.memory;
        if (now.sender.bitCount + length > MOST_BITS) {
            return FULL;
        }
        recordNow();
        for (int i = 0; i < length; i++) {
            now.sender.push(now.code, 0);
        }
        return now.sender.bitCount;
    }

    public int flip(int symbol) {
        if (!isOnLine(symbol)) {
            return UNKNOWN;
        }
        if (now.sender.symbols[symbol] == ERASED || isTaken(symbol)) {
            return NOT_POSSIBLE;
        }
        recordNow();
        int flipped = 1 - now.sender.symbols[symbol];
        now.sender.symbols[symbol] = flipped;
        return flipped;
    }

    public int erase(int symbol) {
        if (!isOnLine(symbol)) {
            return UNKNOWN;
        }
        if (isTaken(symbol)) {
            return NOT_POSSIBLE;
        }
        int before = now.sender.symbols[symbol];
        if (before == ERASED) {
            return NONE;
        }
        recordNow();
        now.sender.symbols[symbol] = ERASED;
        return before;
    }

    // ---- reading

    public int take(int steps) {
        Reader reader = now.reader;
        if (steps < 1 || steps > MOST_BITS) {
            return BAD_VALUE;
        }
        if (reader.isFinished || reader.lineSteps + steps > now.sender.bitCount) {
            return NOT_POSSIBLE;
        }
        if (reader.steps + steps > MOST_BITS) {
            return FULL;
        }
        recordNow();
        int outputs = now.code.outputs;
        for (int i = 0; i < steps; i++) {
            reader.advance(now.code, now.depth, now.sender.symbols, reader.lineSteps * outputs);
            reader.lineSteps++;
        }
        return reader.releasedCount;
    }

    public int hear() {
        Reader reader = now.reader;
        int fault = text.firstFault(ERASED);
        if (fault != NO_FAULT) {
            return FAULT_BASE - fault;
        }
        int outputs = now.code.outputs;
        int steps = outputs > 0 ? text.length / outputs : 0;
        if (steps * outputs != text.length) {
            return BAD_VALUE;
        }
        if (reader.isFinished) {
            return NOT_POSSIBLE;
        }
        if (reader.steps + steps > MOST_BITS) {
            return FULL;
        }
        recordNow();
        for (int i = 0; i < steps; i++) {
            reader.advance(now.code, now.depth, text.values, i * outputs);
        }
        return reader.releasedCount;
    }

    public int finish(boolean tail) {
        Reader reader = now.reader;
        if (reader.isFinished || tail && reader.metrics[0] == NO_METRIC) {
            return NOT_POSSIBLE;
        }
        recordNow();
        int end = tail ? 0 : reader.bestState(now.code);
        reader.releaseUpTo(now.code, end, reader.steps);
        reader.isFinished = true;
        return reader.releasedCount;
    }

    public int reset() {
        recordNow();
        int steps = now.reader.steps;
        now.reader.clear();
        return steps;
    }

    // ---- texts

    public int type(char character) {
        if (text.length >= MOST_CHARACTERS) {
            return FULL;
        }
        text.append(character);
        return text.length;
    }

    public int clearText() {
        int length = text.length;
        text.length = 0;
        return length;
    }

    // ---- history

    public int undo() {
        if (pastCount < 1) {
            return NONE;
        }
        pastCount--;
        now.copyFrom(past[pastCount]);
        return pastCount;
    }

    public int keep() {
        kept.copyFrom(now);
        isKept = true;
        return now.sender.bitCount;
    }

    public int restore() {
        if (!isKept) {
            return NONE;
        }
        recordNow();
        now.copyFrom(kept);
        return now.sender.bitCount;
    }

    // ---- what is told

    public int step(int state, int bit, int what) {
        if (!now.code.hasState(state)) {
            return UNKNOWN;
        }
        if (bit < 0 || bit > 1 || what < 0 || what > 1) {
            return BAD_VALUE;
        }
        return what == 0 ? now.code.stateAfter(state, bit) : now.code.symbolsOf(state, bit);
    }

    public int line(int symbol, int what) {
        if (!isOnLine(symbol)) {
            return UNKNOWN;
        }
        switch (what) {
            case 0:
                return now.sender.symbols[symbol];
            case 1:
                return now.sender.originals[symbol];
            case 2:
                return isTaken(symbol) ? 1 : 0;
            default:
                return BAD_VALUE;
        }
    }

    public int sent(int bit) {
        if (bit < 0 || bit >= now.sender.bitCount) {
            return UNKNOWN;
        }
        return now.sender.bits[bit];
    }

    public int released(int bit) {
        if (bit < 0 || bit >= now.reader.releasedCount) {
            return UNKNOWN;
        }
        return now.reader.releasedBits[bit];
    }

    public int metric(int state) {
        if (!now.code.hasState(state)) {
            return UNKNOWN;
        }
        int metric = now.reader.metrics[state];
        return metric == NO_METRIC ? NONE : metric;
    }

    public int survivor(int state, int back) {
        if (!now.code.hasState(state)) {
            return UNKNOWN;
        }
        if (back < 0) {
            return BAD_VALUE;
        }
        if (now.reader.metrics[state] == NO_METRIC || back >= now.reader.steps) {
            return NONE;
        }
        return now.reader.survivorBit(now.code, state, back);
    }

    public int agreed() {
        return now.reader.commonBits(now.code);
    }

    public int freeDistance() {
        int least = now.code.leastReturn(distances);
        return least == NO_WALK || least > MOST_FREE_DISTANCE ? NONE : least;
    }

    public int hasIdleRing() {
        return now.code.hasRingOfZeros() ? 1 : 0;
    }

    public int wrongBits() {
        int common = Math.min(now.reader.releasedCount, now.sender.bitCount);
        int wrong = 0;
        for (int i = 0; i < common; i++) {
            if (now.reader.releasedBits[i] != now.sender.bits[i]) {
                wrong++;
            }
        }
        return wrong;
    }

    public int count(int what) {
        switch (what) {
            case 0:
                return now.code.memory;
            case 1:
                return now.code.outputs;
            case 2:
            case 3:
                return now.code.taps[what - 2];
            case 4:
                return now.code.outputs < MOST_OUTPUTS ? NONE : now.code.taps[2];
            case 5:
                return now.depth;
            case 6:
                return now.sender.bitCount;
            case 7:
                return lineLength();
            case 8:
                return now.sender.register;
            case 9:
                return erasedSymbols();
            case 10:
                return flippedSymbols();
            case 11:
                return now.reader.steps;
            case 12:
                return now.reader.releasedCount;
            case 13:
                return now.reader.bestState(now.code);
            case 14:
                return now.reader.metrics[now.reader.bestState(now.code)];
            case 15:
                return now.reader.reachedStates(now.code);
            case 16:
                return now.reader.isFinished ? 1 : 0;
            case 17:
                return pastCount;
            case 18:
                return text.length;
            default:
                return BAD_VALUE;
        }
    }

    // ---- helpers

    /** Every act calls this ahead of its first change, and only when it will succeed. */
    private void recordNow() {
        if (pastCount >= MOST_PAST) {
            dropOldest();
        }
        past[pastCount].copyFrom(now);
        pastCount++;
    }

    /** The dropped state goes to the free end, so that no act needs to make one. */
    private void dropOldest() {
        State oldest = past[0];
        for (int i = 1; i < MOST_PAST; i++) {
            past[i - 1] = past[i];
        }
        past[MOST_PAST - 1] = oldest;
        pastCount = MOST_PAST - 1;
    }

    private int lineLength() {
        return now.sender.bitCount * now.code.outputs;
    }

    private boolean isOnLine(int symbol) {
        return symbol >= 0 && symbol < lineLength();
    }

    private boolean isTaken(int symbol) {
        return symbol < now.reader.lineSteps * now.code.outputs;
    }

    private int erasedSymbols() {
        int length = lineLength();
        int erased = 0;
        for (int i = 0; i < length; i++) {
            if (now.sender.symbols[i] == ERASED) {
                erased++;
            }
        }
        return erased;
    }

    private int flippedSymbols() {
        int length = lineLength();
        int flipped = 0;
        for (int i = 0; i < length; i++) {
            int symbol = now.sender.symbols[i];
            if (symbol != ERASED && symbol != now.sender.originals[i]) {
                flipped++;
            }
        }
        return flipped;
    }

    /** The memory and the taps, and what follows from them alone. */
    private static final class Code {
        int memory;
        int outputs;
        final int[] taps;

        Code() {
            taps = new int[MOST_OUTPUTS];
            choose(2, 7, 5, 0);
        }

        void choose(int newMemory, int first, int second, int third) {
            memory = newMemory;
            outputs = third == 0 ? 2 : 3;
            taps[0] = first;
            taps[1] = second;
            taps[2] = third;
        }

        void copyFrom(Code other) {
            choose(other.memory, other.taps[0], other.taps[1], other.taps[2]);
        }

        int states() {
            return 1 << memory;
        }

        boolean hasState(int state) {
            return state >= 0 && state < states();
        }

        int windowOf(int state, int bit) {
            return (bit << memory) + state;
        }

        int stateAfter(int state, int bit) {
            return windowOf(state, bit) >> 1;
        }

        /** The bit by which each walk came to the state: it stands highest in the register. */
        int bitInto(int state) {
            return state >> (memory - 1);
        }

        /** The lower one of the two states that lead to the state; the other one is the next. */
        int lowerBefore(int state) {
            return (2 * state) & (states() - 1);
        }

        int symbolOf(int output, int window) {
            return Integer.bitCount(taps[output] & window) & 1;
        }

        int symbolsOf(int state, int bit) {
            int window = windowOf(state, bit);
            int number = 0;
            for (int i = 0; i < outputs; i++) {
                number = 2 * number + symbolOf(i, window);
            }
            return number;
        }

        int onesOf(int state, int bit) {
            return Integer.bitCount(symbolsOf(state, bit));
        }

        /** How many symbols in the row, from start on, are neither erased nor those of the step. */
        int priceOf(int state, int bit, int[] row, int start) {
            int window = windowOf(state, bit);
            int price = 0;
            for (int i = 0; i < outputs; i++) {
                int symbol = row[start + i];
                if (symbol != ERASED && symbol != symbolOf(i, window)) {
                    price++;
                }
            }
            return price;
        }

        /** The fewest symbols 1 on a walk from the state 0 by a bit 1 until it is there again. */
        int leastReturn(int[] distances) {
            int states = states();
            Arrays.fill(distances, NO_WALK);
            distances[stateAfter(0, 1)] = onesOf(0, 1);
            // A least walk comes to no state twice, so as many rounds as states find it.
            for (int round = 0; round < states; round++) {
                for (int state = 1; state < states; state++) {
                    lowerAfter(state, distances);
                }
            }
            // The state 0 is never left again above, so its distance is that of a first return.
            return distances[0];
        }

        private void lowerAfter(int state, int[] distances) {
            int distance = distances[state];
            if (distance == NO_WALK) {
                return;
            }
            for (int bit = 0; bit < 2; bit++) {
                int after = stateAfter(state, bit);
                int longer = distance + onesOf(state, bit);
                if (distances[after] == NO_WALK || longer < distances[after]) {
                    distances[after] = longer;
                }
            }
        }

        /** States from which no step of zeros leads on are dropped, until only rings and ways to them are left. */
        boolean hasRingOfZeros() {
            int states = states();
            long left = (1L << states) - 2;
            for (int round = 0; round < states; round++) {
                long stay = 0;
                for (int state = 1; state < states; state++) {
                    if (((left >> state) & 1) == 1 && leadsOnByZeros(state, left)) {
                        stay |= 1L << state;
                    }
                }
                left = stay;
            }
            return left != 0;
        }

        private boolean leadsOnByZeros(int state, long left) {
            for (int bit = 0; bit < 2; bit++) {
                if (symbolsOf(state, bit) == 0 && ((left >> stateAfter(state, bit)) & 1) == 1) {
                    return true;
                }
            }
            return false;
        }
    }

    /** The register of the sender, the bits that were sent, and their symbols on the line. */
    private static final class Sender {
        int register;
        int bitCount;
        final int[] bits;
        final int[] symbols;
        final int[] originals;

        Sender() {
            bits = new int[MOST_BITS];
            symbols = new int[MOST_SYMBOLS];
            originals = new int[MOST_SYMBOLS];
            clear();
        }

        void clear() {
            register = 0;
            bitCount = 0;
        }

        void copyFrom(Sender other) {
            register = other.register;
            bitCount = other.bitCount;
            System.arraycopy(other.bits, 0, bits, 0, MOST_BITS);
            System.arraycopy(other.symbols, 0, symbols, 0, MOST_SYMBOLS);
            System.arraycopy(other.originals, 0, originals, 0, MOST_SYMBOLS);
        }

        void push(Code code, int bit) {
            if (bitCount >= MOST_BITS) {
                return;
            }
            int window = code.windowOf(register, bit);
            int start = bitCount * code.outputs;
            for (int i = 0; i < code.outputs; i++) {
                int symbol = code.symbolOf(i, window);
                symbols[start + i] = symbol;
                originals[start + i] = symbol;
            }
            bits[bitCount] = bit;
            bitCount++;
            register = code.stateAfter(register, bit);
        }
    }

    /** The metrics and survivors of all states, and the bits that were released. */
    private static final class Reader {
        int steps;
        /** How many of the steps came from the line: that is where the reader is on it. */
        int lineSteps;
        int releasedCount;
        boolean isFinished;
        final int[] releasedBits;
        final int[] metrics;
        final int[] newMetrics;
        /** For each step a bit a state: 1 if its survivor came from the upper one of its two states before. */
        final int[] fromUpper;

        Reader() {
            releasedBits = new int[MOST_BITS];
            metrics = new int[MOST_STATES];
            newMetrics = new int[MOST_STATES];
            fromUpper = new int[MOST_BITS];
            clear();
        }

        void clear() {
            steps = 0;
            lineSteps = 0;
            releasedCount = 0;
            isFinished = false;
            Arrays.fill(metrics, NO_METRIC);
            metrics[0] = 0;
        }

        void copyFrom(Reader other) {
            steps = other.steps;
            lineSteps = other.lineSteps;
            releasedCount = other.releasedCount;
            isFinished = other.isFinished;
            System.arraycopy(other.releasedBits, 0, releasedBits, 0, MOST_BITS);
            System.arraycopy(other.metrics, 0, metrics, 0, MOST_STATES);
            System.arraycopy(other.fromUpper, 0, fromUpper, 0, MOST_BITS);
        }

        /** Takes one step, the symbols of which stand in the row from start on. */
        void advance(Code code, int depth, int[] row, int start) {
            if (steps >= MOST_BITS) {
                return;
            }
            int states = code.states();
            int choices = 0;
            for (int state = 0; state < states; state++) {
                int before = code.lowerBefore(state);
                int bit = code.bitInto(state);
                int lower = metricOver(code, before, bit, row, start);
                int upper = metricOver(code, before + 1, bit, row, start);
                boolean isUpper = upper != NO_METRIC && (lower == NO_METRIC || upper < lower);
                newMetrics[state] = isUpper ? upper : lower;
                if (isUpper) {
                    choices |= 1 << state;
                }
            }
            System.arraycopy(newMetrics, 0, metrics, 0, states);
            fromUpper[steps] = choices;
            steps++;
            if (steps - releasedCount >= depth) {
                releaseUpTo(code, bestState(code), steps - depth + 1);
            }
        }

        private int metricOver(Code code, int before, int bit, int[] row, int start) {
            if (metrics[before] == NO_METRIC) {
                return NO_METRIC;
            }
            return metrics[before] + code.priceOf(before, bit, row, start);
        }

        /** Releases bits of the survivor of the state until so many are released. */
        void releaseUpTo(Code code, int state, int end) {
            int walk = state;
            for (int i = steps - 1; i >= releasedCount; i--) {
                if (i < end) {
                    releasedBits[i] = code.bitInto(walk);
                }
                walk = stateBefore(code, walk, i);
            }
            releasedCount = end;
        }

        /** The state from which the survivor came to the state in a step. */
        private int stateBefore(Code code, int state, int step) {
            return code.lowerBefore(state) + ((fromUpper[step] >> state) & 1);
        }

        int survivorBit(Code code, int state, int back) {
            int walk = state;
            for (int i = 0; i < back; i++) {
                walk = stateBefore(code, walk, steps - 1 - i);
            }
            return code.bitInto(walk);
        }

        /** All survivors are followed back at once; the earliest step where they differ ends what is common. */
        int commonBits(Code code) {
            int states = code.states();
            int common = steps;
            long walks = reached(code);
            for (int i = steps - 1; i >= 0; i--) {
                long before = 0;
                int bitsSeen = 0;
                for (int state = 0; state < states; state++) {
                    if (((walks >> state) & 1) == 1) {
                        bitsSeen |= 1 << code.bitInto(state);
                        before |= 1L << stateBefore(code, state, i);
                    }
                }
                if (bitsSeen == 3) {
                    common = i;
                }
                walks = before;
            }
            return common;
        }

        /** A bit a state: 1 if it has a metric. */
        private long reached(Code code) {
            int states = code.states();
            long reached = 0;
            for (int state = 0; state < states; state++) {
                if (metrics[state] != NO_METRIC) {
                    reached |= 1L << state;
                }
            }
            return reached;
        }

        int reachedStates(Code code) {
            return Long.bitCount(reached(code));
        }

        /** After any step some state has a metric, and ahead of the first one the state 0 has. */
        int bestState(Code code) {
            int states = code.states();
            int best = 0;
            for (int state = 1; state < states; state++) {
                boolean isBetter = metrics[best] == NO_METRIC || metrics[state] < metrics[best];
                if (metrics[state] != NO_METRIC && isBetter) {
                    best = state;
                }
            }
            return best;
        }
    }

    /** The text, of which only the symbols matter: any other character is a fault. */
    private static final class Text {
        int length;
        final int[] values;

        Text() {
            length = 0;
            values = new int[MOST_CHARACTERS];
        }

        void append(char character) {
            if (length >= MOST_CHARACTERS) {
                return;
            }
            values[length] = valueOf(character);
            length++;
        }

        private static int valueOf(char character) {
            if (character == '0') {
                return 0;
            }
            if (character == '1') {
                return 1;
            }
            return character == '?' ? ERASED : NOT_A_SYMBOL;
        }

        /** The index of the first value above the highest one that is allowed, 0 for an empty text. */
        int firstFault(int highest) {
            if (length == 0) {
                return 0;
            }
            for (int i = 0; i < length; i++) {
                if (values[i] > highest) {
                    return i;
                }
            }
            return NO_FAULT;
        }
    }

    /** All that undo and restore bring back. */
    private static final class State {
        int depth;
        final Code code;
        final Sender sender;
        final Reader reader;

        State() {
            depth = 10;
            code = new Code();
            sender = new Sender();
            reader = new Reader();
        }

        void copyFrom(State other) {
            depth = other.depth;
            code.copyFrom(other.code);
            sender.copyFrom(other.sender);
            reader.copyFrom(other.reader);
        }
    }
}
