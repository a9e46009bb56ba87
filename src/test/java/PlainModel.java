import java.util.ArrayList;
import java.util.List;

/**
 * The document once more, in other ways than the program's and with no thought
 * for room: walks are kept whole as texts, states are copied into lists. It is
 * what RandomRunsTest holds the program against.
 */
final class PlainModel implements Face {
    static final class Walk {
        final int metric;
        final String bits;

        Walk(int metric, String bits) {
            this.metric = metric;
            this.bits = bits;
        }
    }

    static final class Everything {
        int memory = 2;
        List<Integer> taps = List.of(7, 5);
        int depth = 10;
        String sent = "";
        String original = "";
        String line = "";
        int register = 0;
        int position = 0;
        int steps = 0;
        boolean finished = false;
        String released = "";
        List<Walk> walks = firstWalks(4);

        Everything copy() {
            Everything c = new Everything();
            c.memory = memory;
            c.taps = taps;
            c.depth = depth;
            c.sent = sent;
            c.original = original;
            c.line = line;
            c.register = register;
            c.position = position;
            c.steps = steps;
            c.finished = finished;
            c.released = released;
            c.walks = walks;
            return c;
        }
    }

    private Everything e = new Everything();
    private Everything snapshot = null;
    private final List<Everything> history = new ArrayList<>();
    private String text = "";

    static List<Walk> firstWalks(int states) {
        List<Walk> walks = new ArrayList<>();
        walks.add(new Walk(0, ""));
        while (walks.size() < states) {
            walks.add(null);
        }
        return walks;
    }

    private void act() {
        history.add(e.copy());
        if (history.size() > 4) {
            history.remove(0);
        }
    }

    private int states() {
        return (int) Math.pow(2, e.memory);
    }

    private int outputs() {
        return e.taps.size();
    }

    private String symbols(int register, int bit) {
        int window = bit * states() + register;
        StringBuilder out = new StringBuilder();
        for (int tap : e.taps) {
            int ones = 0;
            for (int place = 0; place <= e.memory; place++) {
                boolean inTap = tap / (1 << place) % 2 == 1;
                boolean inWindow = window / (1 << place) % 2 == 1;
                if (inTap && inWindow) {
                    ones++;
                }
            }
            out.append(ones % 2);
        }
        return out.toString();
    }

    private int after(int register, int bit) {
        return (bit * states() + register) / 2;
    }

    @Override
    public int setCode(int memory, int first, int second, int third) {
        if (memory < 1 || memory > 5) {
            return BAD_VALUE;
        }
        int limit = 1 << (memory + 1);
        if (first <= 0 || first >= limit || second <= 0 || second >= limit || third < 0 || third >= limit) {
            return BAD_VALUE;
        }
        act();
        int depth = e.depth;
        e = new Everything();
        e.depth = depth;
        e.memory = memory;
        e.taps = third == 0 ? List.of(first, second) : List.of(first, second, third);
        e.walks = firstWalks(states());
        return outputs();
    }

    @Override
    public int setDepth(int depth) {
        if (depth < 2 || depth > 40) {
            return BAD_VALUE;
        }
        if (e.steps != 0) {
            return NOT_POSSIBLE;
        }
        if (depth == e.depth) {
            return NONE;
        }
        act();
        int previous = e.depth;
        e.depth = depth;
        return previous;
    }

    private int fault(String allowed) {
        if (text.isEmpty()) {
            return 0;
        }
        for (int i = 0; i < text.length(); i++) {
            if (allowed.indexOf(text.charAt(i)) < 0) {
                return i;
            }
        }
        return -1;
    }

    private void push(int bit) {
        e.sent += bit;
        e.line += symbols(e.register, bit);
        e.original += symbols(e.register, bit);
        e.register = after(e.register, bit);
    }

    @Override
    public int send() {
        if (fault("01") >= 0) {
            return -100 - fault("01");
        }
        if (e.sent.length() + text.length() > 80) {
            return FULL;
        }
        act();
        for (char c : text.toCharArray()) {
            push(c - '0');
        }
        return e.sent.length();
    }

    @Override
    public int sendTail() {
        if (e.sent.length() + e.memory > 80) {
            return FULL;
        }
        act();
        for (int i = 0; i < e.memory; i++) {
            push(0);
        }
        return e.sent.length();
    }

    private void put(int symbol, char c) {
        e.line = e.line.substring(0, symbol) + c + e.line.substring(symbol + 1);
    }

    private boolean onLine(int symbol) {
        return symbol >= 0 && symbol < e.line.length();
    }

    @Override
    public int flip(int symbol) {
        if (!onLine(symbol)) {
            return UNKNOWN;
        }
        if (e.line.charAt(symbol) == '?' || symbol < e.position) {
            return NOT_POSSIBLE;
        }
        act();
        put(symbol, e.line.charAt(symbol) == '0' ? '1' : '0');
        return e.line.charAt(symbol) - '0';
    }

    @Override
    public int erase(int symbol) {
        if (!onLine(symbol)) {
            return UNKNOWN;
        }
        if (symbol < e.position) {
            return NOT_POSSIBLE;
        }
        if (e.line.charAt(symbol) == '?') {
            return NONE;
        }
        act();
        int was = e.line.charAt(symbol) - '0';
        put(symbol, '?');
        return was;
    }

    private int best() {
        int best = -1;
        for (int s = 0; s < states(); s++) {
            if (e.walks.get(s) != null && (best < 0 || e.walks.get(s).metric < e.walks.get(best).metric)) {
                best = s;
            }
        }
        return best;
    }

    private void readStep(String taken) {
        List<Walk> next = new ArrayList<>();
        for (int t = 0; t < states(); t++) {
            next.add(null);
        }
        for (int s = 0; s < states(); s++) {
            if (e.walks.get(s) == null) {
                continue;
            }
            for (int b = 0; b < 2; b++) {
                String due = symbols(s, b);
                int price = 0;
                for (int i = 0; i < due.length(); i++) {
                    if (taken.charAt(i) != '?' && taken.charAt(i) != due.charAt(i)) {
                        price++;
                    }
                }
                int t = after(s, b);
                int metric = e.walks.get(s).metric + price;
                if (next.get(t) == null || metric < next.get(t).metric) {
                    next.set(t, new Walk(metric, e.walks.get(s).bits + b));
                }
            }
        }
        e.walks = next;
        e.steps++;
        while (e.steps >= e.released.length() + e.depth) {
            e.released += e.walks.get(best()).bits.charAt(e.released.length());
        }
    }

    @Override
    public int take(int steps) {
        if (steps < 1 || steps > 80) {
            return BAD_VALUE;
        }
        if (e.finished || e.line.length() - e.position < steps * outputs()) {
            return NOT_POSSIBLE;
        }
        if (e.steps + steps > 80) {
            return FULL;
        }
        act();
        for (int i = 0; i < steps; i++) {
            readStep(e.line.substring(e.position, e.position + outputs()));
            e.position += outputs();
        }
        return e.released.length();
    }

    @Override
    public int hear() {
        if (fault("01?") >= 0) {
            return -100 - fault("01?");
        }
        if (text.length() % outputs() != 0) {
            return BAD_VALUE;
        }
        if (e.finished) {
            return NOT_POSSIBLE;
        }
        if (e.steps + text.length() / outputs() > 80) {
            return FULL;
        }
        act();
        for (int i = 0; i < text.length(); i += outputs()) {
            readStep(text.substring(i, i + outputs()));
        }
        return e.released.length();
    }

    @Override
    public int finish(boolean tail) {
        if (e.finished || tail && e.walks.get(0) == null) {
            return NOT_POSSIBLE;
        }
        act();
        e.released += e.walks.get(tail ? 0 : best()).bits.substring(e.released.length());
        e.finished = true;
        return e.released.length();
    }

    @Override
    public int reset() {
        act();
        int steps = e.steps;
        e.steps = 0;
        e.position = 0;
        e.released = "";
        e.finished = false;
        e.walks = firstWalks(states());
        return steps;
    }

    @Override
    public int type(char character) {
        if (text.length() == 60) {
            return FULL;
        }
        text += character;
        return text.length();
    }

    @Override
    public int clearText() {
        int length = text.length();
        text = "";
        return length;
    }

    @Override
    public int undo() {
        if (history.isEmpty()) {
            return NONE;
        }
        e = history.remove(history.size() - 1);
        return history.size();
    }

    @Override
    public int keep() {
        snapshot = e.copy();
        return e.sent.length();
    }

    @Override
    public int restore() {
        if (snapshot == null) {
            return NONE;
        }
        act();
        e = snapshot.copy();
        return e.sent.length();
    }

    private boolean isState(int state) {
        return state >= 0 && state < states();
    }

    @Override
    public int step(int state, int bit, int what) {
        if (!isState(state)) {
            return UNKNOWN;
        }
        if (bit != 0 && bit != 1 || what != 0 && what != 1) {
            return BAD_VALUE;
        }
        return what == 0 ? after(state, bit) : Integer.parseInt(symbols(state, bit), 2);
    }

    @Override
    public int line(int symbol, int what) {
        if (!onLine(symbol)) {
            return UNKNOWN;
        }
        if (what < 0 || what > 2) {
            return BAD_VALUE;
        }
        if (what == 2) {
            return symbol < e.position ? 1 : 0;
        }
        return "01?".indexOf((what == 0 ? e.line : e.original).charAt(symbol));
    }

    @Override
    public int sent(int bit) {
        return bit < 0 || bit >= e.sent.length() ? UNKNOWN : e.sent.charAt(bit) - '0';
    }

    @Override
    public int released(int bit) {
        return bit < 0 || bit >= e.released.length() ? UNKNOWN : e.released.charAt(bit) - '0';
    }

    @Override
    public int metric(int state) {
        if (!isState(state)) {
            return UNKNOWN;
        }
        return e.walks.get(state) == null ? NONE : e.walks.get(state).metric;
    }

    @Override
    public int survivor(int state, int back) {
        if (!isState(state)) {
            return UNKNOWN;
        }
        if (back < 0) {
            return BAD_VALUE;
        }
        Walk walk = e.walks.get(state);
        if (walk == null || walk.bits.length() <= back) {
            return NONE;
        }
        return walk.bits.charAt(walk.bits.length() - 1 - back) - '0';
    }

    @Override
    public int agreed() {
        String common = null;
        for (Walk walk : e.walks) {
            if (walk == null) {
                continue;
            }
            if (common == null) {
                common = walk.bits;
            }
            while (!walk.bits.startsWith(common)) {
                common = common.substring(0, common.length() - 1);
            }
        }
        return common.length();
    }

    /** Least weights of walks of each length, up to far more steps than a least walk has. */
    @Override
    public int freeDistance() {
        int far = 1000000;
        int[] least = new int[states()];
        java.util.Arrays.fill(least, far);
        least[after(0, 1)] = Integer.bitCount(Integer.parseInt(symbols(0, 1), 2));
        int found = far;
        for (int length = 1; length <= 70; length++) {
            int[] next = new int[states()];
            java.util.Arrays.fill(next, far);
            for (int s = 1; s < states(); s++) {
                for (int b = 0; b < 2; b++) {
                    int weight = least[s] + Integer.bitCount(Integer.parseInt(symbols(s, b), 2));
                    int t = after(s, b);
                    next[t] = Math.min(next[t], weight);
                }
            }
            found = Math.min(found, next[0]);
            least = next;
        }
        return found > 40 ? NONE : found;
    }

    /** Who can come to whom by symbols 0 alone, closed over all states between. */
    @Override
    public int hasIdleRing() {
        int n = states();
        boolean[][] comes = new boolean[n][n];
        for (int s = 1; s < n; s++) {
            for (int b = 0; b < 2; b++) {
                if (after(s, b) != 0 && symbols(s, b).indexOf('1') < 0) {
                    comes[s][after(s, b)] = true;
                }
            }
        }
        for (int k = 1; k < n; k++) {
            for (int i = 1; i < n; i++) {
                for (int j = 1; j < n; j++) {
                    comes[i][j] |= comes[i][k] && comes[k][j];
                }
            }
        }
        for (int s = 1; s < n; s++) {
            if (comes[s][s]) {
                return 1;
            }
        }
        return 0;
    }

    @Override
    public int wrongBits() {
        int wrong = 0;
        for (int i = 0; i < e.sent.length() && i < e.released.length(); i++) {
            if (e.sent.charAt(i) != e.released.charAt(i)) {
                wrong++;
            }
        }
        return wrong;
    }

    @Override
    public int count(int what) {
        int erased = 0;
        int flipped = 0;
        for (int i = 0; i < e.line.length(); i++) {
            if (e.line.charAt(i) == '?') {
                erased++;
            } else if (e.line.charAt(i) != e.original.charAt(i)) {
                flipped++;
            }
        }
        int reached = 0;
        for (Walk walk : e.walks) {
            reached += walk == null ? 0 : 1;
        }
        int[] all = {e.memory, outputs(), e.taps.get(0), e.taps.get(1), outputs() == 3 ? e.taps.get(2) : NONE,
            e.depth, e.sent.length(), e.line.length(), e.register, erased, flipped, e.steps, e.released.length(),
            best(), e.walks.get(best()).metric, reached, e.finished ? 1 : 0, history.size(), text.length()};
        return what < 0 || what >= all.length ? BAD_VALUE : all[what];
    }
}
