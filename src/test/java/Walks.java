import java.util.ArrayList;
import java.util.List;
import java.util.function.ToIntFunction;

/**
 * A LikelyWalks whose calls are counted and kept. The document promises nothing
 * of an object after its 512th call, so a test that goes on for longer would ask
 * what is free: here it fails. Twins, made by the same calls, are asked for all
 * that one object could not tell in 512 calls.
 */
final class Walks implements Face {
    static final int MOST_CALLS = 512;

    private final LikelyWalks object = new LikelyWalks();
    private final List<ToIntFunction<LikelyWalks>> calls = new ArrayList<>();
    private Told told = null;
    private int toldAt = -1;

    private int call(ToIntFunction<LikelyWalks> one) {
        if (calls.size() >= MOST_CALLS) {
            throw new IllegalStateException("a test makes more than 512 calls of one object");
        }
        calls.add(one);
        return one.applyAsInt(object);
    }

    int calls() {
        return calls.size();
    }

    int callsLeft() {
        return MOST_CALLS - calls.size();
    }

    Walks twin() {
        Walks twin = new Walks();
        for (ToIntFunction<LikelyWalks> one : calls) {
            twin.call(one);
        }
        return twin;
    }

    Told told() {
        if (toldAt != calls.size()) {
            told = new Told(this);
            toldAt = calls.size();
        }
        return told;
    }

    @Override
    public int setCode(int memory, int first, int second, int third) {
        return call(x -> x.setCode(memory, first, second, third));
    }

    @Override
    public int setDepth(int depth) {
        return call(x -> x.setDepth(depth));
    }

    @Override
    public int send() {
        return call(LikelyWalks::send);
    }

    @Override
    public int sendTail() {
        return call(LikelyWalks::sendTail);
    }

    @Override
    public int flip(int symbol) {
        return call(x -> x.flip(symbol));
    }

    @Override
    public int erase(int symbol) {
        return call(x -> x.erase(symbol));
    }

    @Override
    public int take(int steps) {
        return call(x -> x.take(steps));
    }

    @Override
    public int hear() {
        return call(LikelyWalks::hear);
    }

    @Override
    public int finish(boolean tail) {
        return call(x -> x.finish(tail));
    }

    @Override
    public int reset() {
        return call(LikelyWalks::reset);
    }

    @Override
    public int type(char character) {
        return call(x -> x.type(character));
    }

    @Override
    public int clearText() {
        return call(LikelyWalks::clearText);
    }

    @Override
    public int undo() {
        return call(LikelyWalks::undo);
    }

    @Override
    public int keep() {
        return call(LikelyWalks::keep);
    }

    @Override
    public int restore() {
        return call(LikelyWalks::restore);
    }

    @Override
    public int step(int state, int bit, int what) {
        return call(x -> x.step(state, bit, what));
    }

    @Override
    public int line(int symbol, int what) {
        return call(x -> x.line(symbol, what));
    }

    @Override
    public int sent(int bit) {
        return call(x -> x.sent(bit));
    }

    @Override
    public int released(int bit) {
        return call(x -> x.released(bit));
    }

    @Override
    public int metric(int state) {
        return call(x -> x.metric(state));
    }

    @Override
    public int survivor(int state, int back) {
        return call(x -> x.survivor(state, back));
    }

    @Override
    public int agreed() {
        return call(LikelyWalks::agreed);
    }

    @Override
    public int freeDistance() {
        return call(LikelyWalks::freeDistance);
    }

    @Override
    public int hasIdleRing() {
        return call(LikelyWalks::hasIdleRing);
    }

    @Override
    public int wrongBits() {
        return call(LikelyWalks::wrongBits);
    }

    @Override
    public int count(int what) {
        return call(x -> x.count(what));
    }
}
