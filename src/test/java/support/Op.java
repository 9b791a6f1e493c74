/** The operations by their characters. */
final class Op {
    static final int ADD = 49;
    static final int SUBTRACT = 18;
    static final int ZERO_ADD = 58;
    static final int ZERO_SUBTRACT = 42;
    static final int MOVE = 36;
    static final int LOAD = 35;
    static final int DIGIT = 52;
    static final int ZONE = 24;
    static final int COMPARE = 51;
    static final int MARK = 27;
    static final int UNMARK = 60;
    static final int CLEAR = 17;
    static final int SUPPRESS = 25;
    static final int BRANCH = 50;
    static final int TEST = 21;
    static final int READ = 1;
    static final int PRINT = 2;
    static final int PUNCH = 4;
    static final int STORE_A = 40;
    static final int STORE_B = 56;
    static final int NOP = 37;
    static final int HALT = 59;

    private Op() {
    }
}
