/** Steps, free distance and idle rings of many codes, held against the plain model. */
public final class EveryCodeTest extends Checks {
    private static int codes = 0;
    private static Walks walks = new Walks();
    private static PlainModel model = new PlainModel();

    public static void main(String[] args) {
        for (int memory = 1; memory <= 5; memory++) {
            int highest = (2 << memory) - 1;
            int thirdStep = memory <= 3 ? 1 : 13;
            int firstStep = memory <= 4 ? 1 : 3;
            for (int first = 1; first <= highest; first += firstStep) {
                for (int second = 1; second <= highest; second++) {
                    for (int third = 0; third <= highest; third += thirdStep) {
                        oneCode(memory, first, second, third);
                    }
                }
            }
        }
        end("codes: " + codes);
    }

    /** Many codes are set in one object, so that one that was before has its part too. */
    private static void oneCode(int memory, int first, int second, int third) {
        if (walks.callsLeft() < 7) {
            walks = new Walks();
            model = new PlainModel();
        }
        about("code " + memory + ", " + first + ", " + second + ", " + third);
        codes++;
        due("setCode", walks.setCode(memory, first, second, third), model.setCode(memory, first, second, third));
        due("freeDistance", walks.freeDistance(), model.freeDistance());
        due("hasIdleRing", walks.hasIdleRing(), model.hasIdleRing());
        int state = codes % (1 << memory);
        for (int what = 0; what < 2; what++) {
            for (int bit = 0; bit < 2; bit++) {
                due("step", walks.step(state, bit, what), model.step(state, bit, what));
            }
        }
    }
}
