import java.util.Random;

/** Promise 7: how a step finds its instruction, its addresses and the reasons 1, 2 and 3 of a stop. */
public final class StepTest {
    private static final Due DUE = new Due();

    /** Every operation with its lengths. */
    private static final int[][] LENGTHS = {
        {49, 1, 4, 7}, {18, 1, 4, 7}, {58, 1, 4, 7}, {42, 1, 4, 7}, {36, 1, 4, 7}, {35, 1, 4, 7},
        {52, 1, 4, 7}, {24, 1, 4, 7}, {51, 1, 4, 7}, {27, 1, 4, 7}, {60, 1, 4, 7}, {17, 1, 4, 7},
        {25, 1, 4, 7}, {50, 1, 4, 5, 8}, {21, 8}, {1, 1, 2, 4, 5}, {2, 1, 2, 4, 5}, {4, 1, 2, 4, 5},
        {40, 4}, {56, 4}, {37, 1, 2, 4, 5, 7, 8}, {59, 1, 4}};

    public static void main(String[] args) {
        lengthsOfAllOperations();
        noPosition();
        noMark();
        noEnd();
        addresses();
        registersByLength();
        operationsThatKeepB();
        stopsCountAndGoOn();
        runsUpToSoManySteps();
        stopTwoChangesNothingMore();
        soak();
        DUE.end();
    }

    private static boolean has(int operation, int length) {
        for (int[] row : LENGTHS) {
            for (int k = 1; k < row.length && row[0] == operation; k++) {
                if (row[k] == length) {
                    return true;
                }
            }
        }
        return false;
    }

    private static void lengthsOfAllOperations() {
        for (int operation = 0; operation < 64; operation++) {
            for (int length = 1; length <= 10; length++) {
                CharMachine x = new Bench(DUE, "lengths").registers(605, 606).machine;
                x.set(0, 0, true);
                x.card();
                for (int k = 1; k < length; k++) {
                    x.set(500 + k, 1, false);
                }
                x.set(500, operation, true);
                x.set(500 + length, 37, true);
                x.start(500);
                int reason = x.run(1);
                String what = "operation " + operation + ", length " + length;
                boolean done = has(operation, length);
                DUE.same(what, done ? operation == 59 ? 6 : 0 : 3, reason);
                if (!done) {
                    DUE.same(what + ", I", 500, x.state(0));
                    DUE.same(what + ", A", 605, x.state(1));
                    DUE.same(what + ", B", 606, x.state(2));
                }
            }
        }
    }

    private static void noPosition() {
        Bench x = new Bench(DUE, "no position", 400);
        x.machine.set(20, Op.BRANCH, true);
        x.machine.put(21, 0x040A0AFFFFFFFFFFL, 0);
        x.machine.set(24, 0, true);
        x.machine.start(20);
        DUE.same("going behind the store", 0, x.machine.run(1));
        x.i(400).a(24);
        DUE.same("no position behind the store", 2, x.machine.run(5));
        x.i(400).a(24).b(400).state(6, 2).state(7, 2);

        Bench y = new Bench(DUE, "no position ahead");
        y.field(0, 5).seven(0, Op.DIGIT, 0, 0).a(-1).b(-1);
        y.one(0, Op.BRANCH).i(-1).a(Bench.PROGRAM + 1);
        DUE.same("no position ahead of the store", 2, y.machine.run(1));
        y.i(-1);
    }

    private static void noMark() {
        Bench x = new Bench(DUE, "no mark");
        x.instruction(700, Op.NOP);
        x.machine.set(700, Op.NOP, false);
        DUE.same("no mark", 1, x.machine.run(3));
        x.i(700).state(6, 1).state(7, 1);
        x.machine.set(700, Op.NOP, true);
        DUE.same("a mark now", 3, x.machine.run(3));
        x.i(701).state(6, 3);
    }

    private static void noEnd() {
        CharMachine x = new CharMachine(400);
        for (int from = 391; from < 400; from++) {
            x.set(from, Op.NOP, true);
            x.start(from);
            DUE.same("no mark up to the end, from " + from, 3, x.run(1));
            DUE.same("no mark up to the end, I", from, x.state(0));
            x.set(from, Op.NOP, false);
        }
        x.set(391, Op.NOP, true);
        x.set(399, 0, true);
        x.start(391);
        DUE.same("a mark as the 9th character", 0, x.run(1));
        DUE.same("a mark as the 9th character, I", 399, x.state(0));
        DUE.same("the last position has no end", 3, x.run(1));
    }

    private static void addresses() {
        int[] some = {0, 1, 9, 10, 99, 100, 999, 1000, 1399, 2000, 3999, 4000, 7654, 8000, 12345, 15999};
        for (int address : some) {
            new Bench(DUE, "address " + address).registers(address, 15999 - address).a(address).b(15999 - address);
        }
        // The tens' zones are not looked at; digit bits count modulo 10, the blank is 0.
        int[][] odd = {{1, 48 + 2, 3, 123}, {0, 0, 0, 0}, {15, 14, 13, 543}, {16, 16, 16, 5000},
            {32, 32, 32, 10000}, {63, 63, 63, 15555}, {16 + 10, 11, 32 + 12, 9012}};
        for (int[] o : odd) {
            Bench x = new Bench(DUE, "address of " + o[0] + " " + o[1] + " " + o[2]);
            x.instruction(700, Op.NOP, o[0], o[1], o[2]).machine.run(1);
            x.a(o[3]).b(o[3]);
        }
    }

    private static void registersByLength() {
        Bench x = new Bench(DUE, "registers");
        x.registers(111, 222).i(707).a(111).b(222);
        x.one(0, Op.NOP).i(701).a(111).b(222);
        x.two(0, Op.NOP, 9).i(702).a(111).b(222);
        x.four(0, Op.NOP, 333).i(704).a(333).b(333);
        x.five(0, Op.NOP, 444, 9).i(705).a(444).b(444);
        x.eight(0, Op.NOP, 555, 666, 9).i(708).a(555).b(666);
    }

    private static void operationsThatKeepB() {
        int[] keeping = {Op.MOVE, Op.LOAD, Op.DIGIT, Op.ZONE, Op.STORE_A, Op.STORE_B};
        for (int operation : keeping) {
            Bench x = new Bench(DUE, "keeps B " + operation);
            x.registers(1390, 1391).four(2, operation, 4321).a(4321).b(1391);
        }
        int[] others = {Op.ADD, Op.SUBTRACT, Op.ZERO_ADD, Op.ZERO_SUBTRACT, Op.COMPARE, Op.MARK, Op.UNMARK,
            Op.CLEAR, Op.SUPPRESS};
        for (int operation : others) {
            Bench x = new Bench(DUE, "changes B " + operation);
            x.registers(1390, 1391).four(2, operation, 4321).a(4321).b(4321);
        }
    }

    private static void stopsCountAndGoOn() {
        Bench x = new Bench(DUE, "stops");
        x.machine.put(700, 0x3B253BFFFFFFFFFFL, 7);
        x.machine.set(703, 0, true);
        x.machine.start(700);
        DUE.same("halt", 6, x.machine.run(10));
        x.i(701).state(6, 1).state(7, 6);
        DUE.same("it goes on", 0, x.machine.run(1));
        x.i(702).state(6, 2).state(7, 0);
        DUE.same("halt again", 6, x.machine.run(10));
        x.i(703).state(6, 3).state(7, 6);
        DUE.same("no instruction", 3, x.machine.run(10));
        x.i(703).state(6, 4).state(7, 3);
    }

    private static void runsUpToSoManySteps() {
        Bench x = new Bench(DUE, "steps");
        x.instruction(700, Op.BRANCH, 7, 10, 10);
        DUE.same("steps", 0, x.machine.run(20000));
        x.state(6, 20000).state(7, 0).i(700).a(704);
        DUE.same("steps", 0, x.machine.run(7));
        x.state(6, 20007);
    }

    /** Every operation that looks at positions, with A or B, or the left end, outside of the store. */
    private static void stopTwoChangesNothingMore() {
        int[] two = {Op.ADD, Op.SUBTRACT, Op.ZERO_ADD, Op.ZERO_SUBTRACT, Op.MOVE, Op.LOAD, Op.DIGIT, Op.ZONE,
            Op.COMPARE, Op.MARK, Op.UNMARK, Op.SUPPRESS};
        for (int operation : two) {
            Bench x = new Bench(DUE, "outside " + operation);
            x.digits(605, "98", 16).digits(610, "45", 32).plain(1, 4, 36);
            for (int there : new int[] {605, 610, 1}) {
                x.seven(2, operation, there, 1400).i(707).a(there).b(1400);
                x.seven(2, operation, 1400, there).i(707).a(1400).b(there);
                x.seven(2, operation, 15999, there).a(15999).b(there);
            }
            x.is(605, 9, 24).is(610, 4, 37).is(1, 4, 36).marks("10", 605).marks("10", 610).marks("00", 1);
            x.state(3, 0).state(4, 0);
        }
        int[] fields = {Op.ADD, Op.SUBTRACT, Op.ZERO_ADD, Op.ZERO_SUBTRACT, Op.MOVE, Op.LOAD, Op.COMPARE,
            Op.SUPPRESS};
        for (int operation : fields) {
            Bench x = new Bench(DUE, "off the left " + operation);
            x.digits(605, "98765", 16).plain(2, 1, 2, 3);
            x.seven(2, operation, 605, 2).i(707).a(605).b(2).is(2, 1, 2, 3).marks("000", 2);
            x.is(605, 9, 8, 7, 6, 21).state(3, 0);
        }
        new Bench(DUE, "A off the left").digits(605, "98765", 16).plain(2, 1, 2, 3)
            .seven(2, Op.ADD, 2, 605).a(2).b(605).is(605, 9, 8, 7, 6, 21);
    }

    /** Nothing but a stop ends a run, whatever is in the store. */
    private static void soak() {
        Random random = new Random(1401);
        for (int round = 0; round < 1500; round++) {
            CharMachine x = new CharMachine(400 + random.nextInt(1601));
            int size = x.state(8);
            fillAtRandom(x, random, 2 + random.nextInt(9));
            for (int n = 0; n < 5; n++) {
                x.column(1 + random.nextInt(80), random.nextInt(64));
                x.card();
            }
            for (int n = 0; n < 25; n++) {
                x.start(random.nextInt(size));
                int reason = x.run(1 + random.nextInt(30));
                DUE.yes("soak: a reason", reason >= 0 && reason <= 6);
                DUE.yes("soak: I", x.state(0) >= -1 && x.state(0) < 16000);
                DUE.yes("soak: A", x.state(1) >= -1 && x.state(1) < 16000);
                DUE.yes("soak: B", x.state(2) >= -1 && x.state(2) < 16000);
            }
        }
    }

    private static void fillAtRandom(CharMachine x, Random random, int density) {
        int size = x.state(8);
        for (int from = 0; from + 8 <= size; from += 8) {
            long characters = 0;
            int marks = 0;
            for (int k = 0; k < 8; k++) {
                boolean mark = random.nextInt(density) == 0;
                int operation = LENGTHS[random.nextInt(LENGTHS.length)][0];
                characters = characters << 8 | (mark ? operation : random.nextInt(64));
                marks |= mark ? 1 << k : 0;
            }
            x.put(from, characters, marks);
        }
    }
}
