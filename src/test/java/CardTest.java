/** Promises 4, 5, 11 and 12, and of promise 7 the operations 1, 2 and 4. */
public final class CardTest {
    private static final Due DUE = new Due();
    /** Columns to look at: an object is used for 512 calls at most. */
    private static final int[] COLUMNS = {1, 2, 40, 41, 79, 80};
    private static final int[] PLACES = {1, 2, 66, 131, 132};

    public static void main(String[] args) {
        read();
        readWithAddress();
        lastCard();
        noCard();
        refusedCardStays();
        print();
        punch();
        manyLines();
        manyPunchedCards();
        nothingOutOfYet();
        DUE.end();
    }

    private static void makeUp(Bench x, int seed) {
        for (int column : COLUMNS) {
            x.machine.column(column, (column * 7 + seed) % 64);
        }
        x.machine.card();
    }

    private static void isRead(Bench x, int seed) {
        for (int column : COLUMNS) {
            x.is(column, (column * 7 + seed) % 64);
        }
    }

    private static void read() {
        Bench x = new Bench(DUE, "read").field(0, 33).field(81, 34).field(80, 35).field(1, 36);
        makeUp(x, 3);
        makeUp(x, 4);
        x.registers(11, 22).one(0, Op.READ).i(701).a(11).b(81).count(0, 1);
        isRead(x, 3);
        x.is(0, 33).is(81, 34).marks("110", 2).marks("011", 81).count(3, 7);
        x.machine.column(5, 9);
        x.machine.card();
        x.two(0, Op.READ, 63).i(702).a(11).b(81).count(0, 1);
        isRead(x, 4);
        x.one(0, Op.READ).count(0, 0).is(8, 0, 0, 0, 0, 9, 0, 0, 0).is(80, 0);
    }

    private static void readWithAddress() {
        Bench x = new Bench(DUE, "read and go");
        makeUp(x, 1);
        makeUp(x, 2);
        x.four(0, Op.READ, 345).i(345).a(704).b(81);
        isRead(x, 1);
        x.five(0, Op.READ, 346, 9).i(346).a(705).b(81);
        isRead(x, 2);
    }

    private static void lastCard() {
        Bench x = new Bench(DUE, "last card");
        makeUp(x, 1);
        makeUp(x, 2);
        x.state(5, 0).one(0, Op.READ).state(5, 0).one(0, Op.READ).state(5, 1);
        makeUp(x, 3);
        makeUp(x, 4);
        x.state(5, 1).one(0, Op.READ).state(5, 0).one(0, Op.READ).state(5, 1);
        x.one(4, Op.READ).state(5, 1);
    }

    private static void noCard() {
        Bench x = new Bench(DUE, "no card").field(1, 50);
        x.machine.column(1, 7);
        x.registers(11, 22).one(4, Op.READ).i(701).a(11).b(22).is(1, 50).state(5, 0).state(7, 4);
        x.four(4, Op.READ, 345).i(704).a(345).b(345).is(1, 50);
        x.machine.card();
        x.one(0, Op.READ).is(1, 7).state(5, 1);
    }

    private static void refusedCardStays() {
        Bench x = new Bench(DUE, "20 cards");
        for (int n = 0; n < 20; n++) {
            makeUp(x, n);
        }
        x.machine.column(1, 63);
        DUE.fails("card 21", IllegalStateException.class, x.machine::card);
        for (int n = 0; n < 20; n++) {
            x.one(0, Op.READ).count(0, 19 - n).state(5, n == 19 ? 1 : 0);
            isRead(x, n);
        }
        x.one(4, Op.READ);
    }

    private static void fill(Bench x, int ahead, int[] columns, int seed) {
        for (int k : columns) {
            x.machine.set(ahead + k, (k * 5 + seed) % 64, k % 2 == 0);
        }
    }

    private static void isPrinted(Bench x, int line, int seed) {
        for (int k : PLACES) {
            DUE.same("printed " + line + " " + k, (k * 5 + seed) % 64, x.machine.printed(line, k));
        }
    }

    private static void isPunched(Bench x, int card, int seed) {
        for (int k : COLUMNS) {
            DUE.same("punched " + card + " " + k, (k * 5 + seed) % 64, x.machine.punched(card, k));
        }
    }

    private static void print() {
        Bench x = new Bench(DUE, "print").registers(11, 22);
        fill(x, 200, PLACES, 1);
        x.one(0, Op.PRINT).i(701).a(11).b(333).count(1, 1).count(2, 0);
        fill(x, 200, PLACES, 2);
        isPrinted(x, 0, 1);
        x.two(0, Op.PRINT, 9).i(702).a(11).b(333).count(1, 2);
        x.four(0, Op.PRINT, 345).i(345).a(704).b(333).count(1, 3);
        x.five(0, Op.PRINT, 345, 9).i(345).a(705).b(333).count(1, 4);
        isPrinted(x, 0, 1);
        isPrinted(x, 1, 2);
        isPrinted(x, 3, 2);
        x.is(201, 7).marks("01", 202);
        int[][] wrong = {{0, 0}, {0, 133}, {4, 1}, {-1, 1}, {0, -1}, {0, Integer.MAX_VALUE},
            {Integer.MAX_VALUE, 1}, {Integer.MIN_VALUE, 1}, {3, 133}, {0, Integer.MIN_VALUE}};
        for (int[] w : wrong) {
            DUE.fails("printed(" + w[0] + ", " + w[1] + ")", IndexOutOfBoundsException.class,
                () -> x.machine.printed(w[0], w[1]));
        }
    }

    private static void punch() {
        Bench x = new Bench(DUE, "punch").registers(11, 22);
        fill(x, 100, COLUMNS, 1);
        x.one(0, Op.PUNCH).i(701).a(11).b(181).count(2, 1).count(1, 0);
        fill(x, 100, COLUMNS, 2);
        isPunched(x, 0, 1);
        x.two(0, Op.PUNCH, 9).i(702).a(11).b(181).count(2, 2);
        x.four(0, Op.PUNCH, 345).i(345).a(704).b(181).count(2, 3);
        x.five(0, Op.PUNCH, 345, 9).i(345).a(705).b(181).count(2, 4);
        isPunched(x, 0, 1);
        isPunched(x, 1, 2);
        isPunched(x, 3, 2);
        int[][] wrong = {{0, 0}, {0, 81}, {4, 1}, {-1, 1}, {0, -1}, {0, Integer.MAX_VALUE},
            {Integer.MAX_VALUE, 1}, {Integer.MIN_VALUE, 1}, {3, 81}, {0, Integer.MIN_VALUE}};
        for (int[] w : wrong) {
            DUE.fails("punched(" + w[0] + ", " + w[1] + ")", IndexOutOfBoundsException.class,
                () -> x.machine.punched(w[0], w[1]));
        }
    }

    private static void manyLines() {
        Bench x = new Bench(DUE, "40 lines").instruction(700, Op.PRINT);
        for (int n = 0; n < 40; n++) {
            x.machine.set(201, n, false);
            x.machine.set(332, 63 - n, true);
            x.machine.start(700);
            DUE.same("line " + n, 0, x.machine.run(1));
        }
        x.registers(11, 22).one(5, Op.PRINT).i(701).a(11).b(22).count(1, 40).state(7, 5);
        x.four(5, Op.PRINT, 345).i(704).a(345).b(345).count(1, 40);
        for (int n = 0; n < 40; n++) {
            DUE.same("line " + n, n, x.machine.printed(n, 1));
            DUE.same("line " + n, 63 - n, x.machine.printed(n, 132));
        }
        DUE.fails("printed(40, 1)", IndexOutOfBoundsException.class, () -> x.machine.printed(40, 1));
        x.one(0, Op.PUNCH).count(2, 1);
    }

    private static void manyPunchedCards() {
        Bench x = new Bench(DUE, "20 punched cards").instruction(700, Op.PUNCH);
        for (int n = 0; n < 20; n++) {
            x.machine.set(101, n, false);
            x.machine.set(180, 63 - n, true);
            x.machine.start(700);
            DUE.same("punched card " + n, 0, x.machine.run(1));
        }
        x.registers(11, 22).one(5, Op.PUNCH).i(701).a(11).b(22).count(2, 20).state(7, 5);
        x.four(5, Op.PUNCH, 345).i(704).a(345).b(345).count(2, 20);
        for (int n = 0; n < 20; n++) {
            DUE.same("punched card " + n, n, x.machine.punched(n, 1));
            DUE.same("punched card " + n, 63 - n, x.machine.punched(n, 80));
        }
        DUE.fails("punched(20, 1)", IndexOutOfBoundsException.class, () -> x.machine.punched(20, 1));
        x.one(0, Op.PRINT).count(1, 1);
    }

    private static void nothingOutOfYet() {
        CharMachine x = new CharMachine(400);
        x.column(1, 5);
        x.card();
        DUE.fails("printed(0, 1)", IndexOutOfBoundsException.class, () -> x.printed(0, 1));
        DUE.fails("punched(0, 1)", IndexOutOfBoundsException.class, () -> x.punched(0, 1));
    }
}
