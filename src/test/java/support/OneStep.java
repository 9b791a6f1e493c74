/** Machines with one instruction of one character, which can be done again and again. */
final class OneStep {
    static final int PLACE = 350;

    private OneStep() {
    }

    static CharMachine machine(int operation) {
        CharMachine x = new CharMachine(400);
        x.set(PLACE, operation, true);
        x.set(PLACE + 1, Op.NOP, true);
        x.start(PLACE);
        return x;
    }

    static int go(CharMachine x) {
        x.start(PLACE);
        return x.run(1);
    }
}
