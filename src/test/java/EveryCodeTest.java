/** Steps, free distance and idle rings of many codes, held against the plain model. */
public final class EveryCodeTest {
    private static int codes = 0;
    private static int wrong = 0;

    public static void main(String[] args) {
        LikelyWalks walks = new LikelyWalks();
        PlainModel model = new PlainModel();
        for (int memory = 1; memory <= 5; memory++) {
            int highest = (2 << memory) - 1;
            int thirdStep = memory <= 3 ? 1 : 13;
            int firstStep = memory <= 4 ? 1 : 3;
            for (int first = 1; first <= highest; first += firstStep) {
                for (int second = 1; second <= highest; second++) {
                    for (int third = 0; third <= highest; third += thirdStep) {
                        oneCode(walks, model, memory, first, second, third);
                    }
                }
            }
        }
        System.out.println("codes: " + codes + ", wrong: " + wrong);
        if (wrong != 0 || codes == 0) {
            System.exit(1);
        }
    }

    private static void oneCode(LikelyWalks walks, PlainModel model, int memory, int first, int second, int third) {
        String code = memory + ", " + first + ", " + second + ", " + third;
        codes++;
        due(code, "setCode", walks.setCode(memory, first, second, third), model.setCode(memory, first, second, third));
        due(code, "freeDistance", walks.freeDistance(), model.freeDistance());
        due(code, "hasIdleRing", walks.hasIdleRing(), model.hasIdleRing());
        int state = codes % (1 << memory);
        for (int what = 0; what < 2; what++) {
            for (int bit = 0; bit < 2; bit++) {
                due(code, "step", walks.step(state, bit, what), model.step(state, bit, what));
            }
        }
    }

    private static void due(String code, String call, int got, int want) {
        if (got != want) {
            wrong++;
            System.out.println("code " + code + ": " + call + " answered " + got + ", due is " + want);
        }
    }
}
