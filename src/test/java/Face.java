/** The calls of the document, so that the program and the model of the tests can be asked alike. */
interface Face {
    int UNKNOWN = -1;
    int BAD_VALUE = -2;
    int FULL = -3;
    int NOT_POSSIBLE = -4;
    int NONE = -5;

    int setCode(int memory, int first, int second, int third);

    int setDepth(int depth);

    int send();

    int sendTail();

    int flip(int symbol);

    int erase(int symbol);

    int take(int steps);

    int hear();

    int finish(boolean tail);

    int reset();

    int type(char character);

    int clearText();

    int undo();

    int keep();

    int restore();

    int step(int state, int bit, int what);

    int line(int symbol, int what);

    int sent(int bit);

    int released(int bit);

    int metric(int state);

    int survivor(int state, int back);

    int agreed();

    int freeDistance();

    int hasIdleRing();

    int wrongBits();

    int count(int what);
}
