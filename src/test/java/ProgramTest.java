/** Whole programs, as a user writes them: many instructions, run at once from the first to the halt. */
public final class ProgramTest {
    private static final Due DUE = new Due();
    private static final int PROGRAM = 700;
    private static final int TOTALS = 418;
    private static final int MINUS = 32;
    private static final int LAST_CARD = 49;
    private static final int HIGH = 20;

    public static void main(String[] args) {
        listingWithTotals();
        subroutine();
        multiplication();
        DUE.end();
    }

    /** Writes instructions one behind the other. */
    private static final class Writer {
        final CharMachine machine = new CharMachine(1400);
        int next = PROGRAM;

        int one(int operation) {
            return write(operation);
        }

        int four(int operation, int a) {
            int[] p = Bench.address(a);
            return write(operation, p[0], p[1], p[2]);
        }

        int five(int operation, int a, int modifier) {
            int[] p = Bench.address(a);
            return write(operation, p[0], p[1], p[2], modifier);
        }

        int seven(int operation, int a, int b) {
            int[] p = Bench.address(a);
            int[] q = Bench.address(b);
            return write(operation, p[0], p[1], p[2], q[0], q[1], q[2]);
        }

        /** The last instruction needs a word mark behind it. */
        void end() {
            machine.set(next, 0, true);
            machine.start(PROGRAM);
        }

        private int write(int... characters) {
            int from = next;
            for (int character : characters) {
                machine.set(next, character, next == from);
                next++;
            }
            return from;
        }
    }

    private static final int[][] AMOUNTS = {
        {12, 9999, -5}, {3, 9999, -17}, {400, 1, 22}, {0, 9999, -1}, {85, 502, 0},
    };

    /** Cards of three amounts of four columns: each is listed, the totals are printed and punched. */
    private static void listingWithTotals() {
        Writer w = new Writer();
        w.seven(Op.MARK, 1, 5);
        w.four(Op.MARK, 9);
        w.seven(Op.MARK, TOTALS - 5, TOTALS - 11);
        w.four(Op.MARK, TOTALS - 17);
        int loop = w.one(Op.READ);
        w.seven(Op.ADD, 12, TOTALS);
        w.one(Op.ADD);
        w.one(Op.ADD);
        w.seven(Op.MOVE, 80, 280);
        w.one(Op.MOVE);
        w.one(Op.MOVE);
        w.one(Op.PRINT);
        int leave = w.five(Op.BRANCH, 0, LAST_CARD);
        w.four(Op.BRANCH, loop);
        int total = w.four(Op.CLEAR, 332);
        w.one(Op.CLEAR);
        w.seven(Op.SUPPRESS, TOTALS, 220);
        w.seven(Op.SUPPRESS, TOTALS - 6, 213);
        w.seven(Op.SUPPRESS, TOTALS - 12, 206);
        w.one(Op.PRINT);
        w.seven(Op.MOVE, TOTALS, 118);
        w.one(Op.MOVE);
        w.one(Op.MOVE);
        w.one(Op.PUNCH);
        w.one(Op.HALT);
        w.end();
        patch(w.machine, leave, total);
        makeUpCards(w.machine);
        DUE.same("listing: run", 6, w.machine.run(20000));
        // 4 ahead of the loop, 10 for each card, but the last one does not go back, 11 behind it.
        DUE.same("listing: steps", 4 + 10 * AMOUNTS.length - 1 + 11, w.machine.state(6));
        DUE.same("listing: cards", 0, w.machine.count(0));
        DUE.same("listing: lines", AMOUNTS.length + 1, w.machine.count(1));
        DUE.same("listing: punched", 1, w.machine.count(2));
        DUE.same("listing: no overflow", 0, w.machine.state(4));
        checkListing(w.machine);
        checkTotals(w.machine);
    }

    private static void patch(CharMachine x, int instruction, int address) {
        int[] p = Bench.address(address);
        for (int k = 0; k < 3; k++) {
            x.set(instruction + 1 + k, p[k], false);
        }
    }

    private static void makeUpCards(CharMachine x) {
        for (int card = 0; card < AMOUNTS.length; card++) {
            for (int column = 1; column <= 80; column++) {
                x.column(column, columnOf(card, column));
            }
            DUE.same("listing: card", card + 1, x.card());
        }
    }

    /** Amounts in columns 1 to 12, the card's own character behind them. */
    private static int columnOf(int card, int column) {
        if (column > 12) {
            return 20 + card;
        }
        int amount = AMOUNTS[card][(column - 1) / 4];
        return digitOf(amount, 3 - (column - 1) % 4);
    }

    /** The digit of a power of ten, and the sign in that of the units. */
    private static int digitOf(int amount, int power) {
        int rest = Math.abs(amount);
        for (int k = 0; k < power; k++) {
            rest /= 10;
        }
        return Bench.digit(rest % 10) | (power == 0 && amount < 0 ? MINUS : 0);
    }

    private static void checkListing(CharMachine x) {
        for (int line = 0; line < AMOUNTS.length; line++) {
            for (int k = 1; k <= 132; k++) {
                int due = k <= 80 ? columnOf(line, k) : 0;
                DUE.same("listing: printed(" + line + ", " + k + ")", due, x.printed(line, k));
            }
        }
    }

    private static void checkTotals(CharMachine x) {
        for (int field = 0; field < 3; field++) {
            int sum = 0;
            for (int[] amounts : AMOUNTS) {
                sum += amounts[field];
            }
            int units = TOTALS - 12 + 6 * field;
            DUE.same("listing: number(" + units + ")", sum, x.number(units));
            for (int power = 0; power < 6; power++) {
                int column = 6 + 6 * field - power;
                DUE.same("listing: punched(0, " + column + ")", x.at(units - power), x.punched(0, column));
                int k = 6 + 7 * field - power;
                boolean leads = Math.abs(sum) < Math.pow(10, power);
                int due = leads ? 0 : digitOf(Math.abs(sum), power);
                DUE.same("listing: total at " + k, due, x.printed(AMOUNTS.length, k));
            }
        }
    }

    /** A branch leaves the way back in A; the subroutine writes it into its own last branch. */
    private static void subroutine() {
        Writer w = new Writer();
        int first = w.four(Op.BRANCH, 0);
        int second = w.four(Op.BRANCH, 0);
        w.one(Op.HALT);
        w.next = 800;
        int sub = w.four(Op.STORE_A, 800 + 4 + 7 + 3);
        w.seven(Op.ADD, 602, 605);
        w.four(Op.BRANCH, 0);
        w.machine.set(w.next, 0, true);
        w.machine.set(709, 0, true);
        patch(w.machine, first, sub);
        patch(w.machine, second, sub);
        w.machine.put(600, 0x0A0A070A0A0AFFFFL, 0b1001);
        w.machine.start(PROGRAM);
        DUE.same("subroutine: run", 6, w.machine.run(100));
        DUE.same("subroutine: number", 14, w.machine.number(605));
        DUE.same("subroutine: I", 709, w.machine.state(0));
        DUE.same("subroutine: steps", 9, w.machine.state(6));
    }

    /** 217 times 36 by adding again and again: S counts down, C and B tell when it is over. */
    private static void multiplication() {
        Writer w = new Writer();
        CharMachine x = w.machine;
        x.put(600, 0x0201070A0A0A0A0AL, 0b00001001);
        x.put(608, 0x0A0306010A0AFFFFL, 0b011010);
        w.seven(Op.ADD, 602, 607);
        w.seven(Op.SUBTRACT, 611, 610);
        // The counter's units keep a plus zone from the first subtraction on: the digits are compared alone.
        w.seven(Op.DIGIT, 610, 620);
        w.seven(Op.DIGIT, 609, 619);
        w.seven(Op.COMPARE, 613, 620);
        w.five(Op.BRANCH, PROGRAM, HIGH);
        w.one(Op.HALT);
        w.end();
        x.set(619, 0, true);
        DUE.same("multiplication: run", 6, x.run(20000));
        DUE.same("multiplication: number", 217 * 36, x.number(607));
        DUE.same("multiplication: counter", 0, x.number(610));
        DUE.same("multiplication: steps", 6 * 36 + 1, x.state(6));
        DUE.same("multiplication: EQUAL", 0, x.state(3));
    }
}
