/** Every sentence about a STEP that names a boundary, by a test of its own. */
public final class BoundaryStepTest {
    /** Every operation with its lengths, as the document tells them. */
    private static final int[][] LENGTHS = {
        {49, 1, 4, 7}, {18, 1, 4, 7}, {58, 1, 4, 7}, {42, 1, 4, 7}, {36, 1, 4, 7}, {35, 1, 4, 7},
        {52, 1, 4, 7}, {24, 1, 4, 7}, {51, 1, 4, 7}, {27, 1, 4, 7}, {60, 1, 4, 7}, {17, 1, 4, 7},
        {25, 1, 4, 7}, {50, 1, 4, 5, 8}, {21, 8}, {1, 1, 2, 4, 5}, {2, 1, 2, 4, 5}, {4, 1, 2, 4, 5},
        {40, 4}, {56, 4}, {37, 1, 2, 4, 5, 7, 8}, {59, 1, 4}};

    public static void main(String[] args) {
        Sentences all = new Sentences();
        all.holds("at I there must be a position (else stop 2)", BoundaryStepTest::noPosition);
        all.holds("with a word mark (else stop 1)", BoundaryStepTest::noMark);
        all.holds("up to the next position with a word mark (not included)", BoundaryStepTest::nextMark);
        all.holds("where none comes up to the store's end: stop 3", BoundaryStepTest::noMarkUpToTheEnd);
        all.holds("or the 9th character: stop 3", BoundaryStepTest::noMarkUpToTheNinth);
        all.holds("its LENGTH must be 1, 2, 4, 5, 7 or 8 (else stop 3)", BoundaryStepTest::lengths);
        all.holds("so also for an operation that there is not", BoundaryStepTest::noSuchOperation);
        all.holds("or by another length than is told at it", BoundaryStepTest::lengthsOfOperations);
        all.holds("I becomes the place behind it", BoundaryStepTest::placeBehind);
        all.holds("(What stops up to here changes nothing.)", BoundaryStepTest::stopsThatChangeNothing);
        all.holds("With length 4 or more: the A-ADDRESS, which A becomes", BoundaryStepTest::aAddress);
        all.holds("with 7 or more: the B-ADDRESS, which B becomes", BoundaryStepTest::bAddress);
        all.holds("with 4 or 5 B becomes the A-address, too", BoundaryStepTest::bBecomesTheAAddress);
        all.holds("but not of M, L, D, Y, Q, H", BoundaryStepTest::bStays);
        all.holds("Lengths 1 and 2 leave A and B as they are (so operations chain)", BoundaryStepTest::chains);
        all.holds("With 2, 5, 8 the last character is the MODIFIER", BoundaryStepTest::modifiers);
        all.holds("A STOP ends the run", BoundaryStepTest::stopEndsTheRun);
        all.holds("another one goes on from I as it is", BoundaryStepTest::goesOnFromI);
        all.end();
    }

    private static void noPosition(Due due) {
        CharMachine x = new CharMachine(400);
        x.put(20, 0x32040A0AFFFFFFFFL, 1);
        x.set(24, 0, true);
        x.start(20);
        due.same("B 400", 0, x.run(1));
        due.same("I is behind the store", 400, x.state(0));
        due.same("behind the store", 2, x.run(1));
        due.same("I stays", 400, x.state(0));
        due.same("again", 2, x.run(20000));
        Bench far = new Bench(due, "far behind").four(0, Op.BRANCH, 15999).i(15999);
        due.same("far behind", 2, far.machine.run(1));
        Bench ahead = new Bench(due, "ahead").four(0, Op.MARK, 0).one(0, Op.BRANCH).i(-1);
        due.same("ahead of the store", 2, ahead.machine.run(1));
        ahead.i(-1).a(701).b(-1);
    }

    private static void noMark(Due due) {
        CharMachine x = new CharMachine(400);
        for (int at : new int[] {0, 200, 399}) {
            x.set(at, Op.NOP, false);
            x.start(at);
            due.same("no mark at " + at, 1, x.run(1));
            due.same("I stays " + at, at, x.state(0));
        }
        x.set(1, 0, true);
        x.start(0);
        due.same("no mark, but one behind", 1, x.run(1));
        x.set(0, Op.NOP, true);
        due.same("a mark", 0, x.run(1));
    }

    private static void nextMark(Due due) {
        Bench x = new Bench(due, "next mark").instruction(700, Op.NOP, 1, 2, 3, 4, 5, 6, 7);
        due.same("of eight", 0, x.machine.run(1));
        x.i(708).a(123).b(456);
        x.machine.set(704, 59, true);
        x.machine.start(700);
        due.same("of four", 0, x.machine.run(1));
        x.i(704).a(123).b(123);
        x.machine.set(701, 59, true);
        x.machine.start(700);
        due.same("of one", 0, x.machine.run(1));
        x.i(701).a(123).b(123);
    }

    private static void noMarkUpToTheEnd(Due due) {
        for (int from = 391; from < 400; from++) {
            CharMachine x = new CharMachine(400);
            x.set(from, Op.NOP, true);
            x.start(from);
            due.same("none from " + from, 3, x.run(1));
            due.same("I stays " + from, from, x.state(0));
        }
        CharMachine x = new CharMachine(400);
        x.put(398, 0x2525FFFFFFFFFFFFL, 3);
        x.start(398);
        due.same("a mark at the end", 0, x.run(1));
        due.same("I is the last position", 399, x.state(0));
        due.same("none behind the last one", 3, x.run(1));
    }

    private static void noMarkUpToTheNinth(Due due) {
        for (int length = 7; length <= 20; length++) {
            CharMachine x = new CharMachine(400);
            x.set(100, Op.NOP, true);
            x.set(100 + length, Op.NOP, true);
            x.start(100);
            due.same("a mark behind " + length, length <= 8 ? 0 : 3, x.run(1));
            due.same("I, " + length, length <= 8 ? 100 + length : 100, x.state(0));
        }
    }

    private static int lengthStep(int operation, int length) {
        return lengthMachine(operation, length).run(1);
    }

    /** An instruction whose addresses are 111, and what there is to be done there. */
    private static CharMachine lengthMachine(int operation, int length) {
        CharMachine x = new Bench(new Due(), "").field(605, 7).field(606, 8).registers(605, 606).machine;
        x.card();
        x.set(111, 3, true);
        for (int k = 1; k < length; k++) {
            x.set(500 + k, 1, false);
        }
        x.set(500, operation, true);
        x.set(500 + length, Op.NOP, true);
        x.start(500);
        return x;
    }

    private static void lengths(Due due) {
        boolean[] right = {false, true, true, false, true, true, false, true, true, false, false};
        for (int length = 1; length <= 10; length++) {
            due.same("length " + length, right[length] ? 0 : 3, lengthStep(Op.NOP, length));
        }
        for (int[] row : LENGTHS) {
            due.same("operation " + row[0] + ", length 3", 3, lengthStep(row[0], 3));
            due.same("operation " + row[0] + ", length 6", 3, lengthStep(row[0], 6));
            due.same("operation " + row[0] + ", length 9", 3, lengthStep(row[0], 9));
        }
    }

    private static int[] rowOf(int operation) {
        for (int[] row : LENGTHS) {
            if (row[0] == operation) {
                return row;
            }
        }
        return null;
    }

    private static void noSuchOperation(Due due) {
        int none = 0;
        for (int operation = 0; operation < 64; operation++) {
            if (rowOf(operation) == null) {
                none++;
                for (int length = 1; length <= 9; length++) {
                    due.same("operation " + operation + ", " + length, 3, lengthStep(operation, length));
                }
            }
        }
        due.same("that many are not there", 42, none);
    }

    private static void lengthsOfOperations(Due due) {
        for (int[] row : LENGTHS) {
            for (int length = 1; length <= 8; length++) {
                int reason = 3;
                for (int k = 1; k < row.length; k++) {
                    reason = row[k] == length ? row[0] == Op.HALT ? 6 : 0 : reason;
                }
                due.same("operation " + row[0] + ", length " + length, reason, lengthStep(row[0], length));
            }
        }
    }

    private static void placeBehind(Due due) {
        for (int length : new int[] {1, 2, 4, 5, 7, 8}) {
            CharMachine x = lengthMachine(Op.NOP, length);
            x.run(1);
            due.same("length " + length, 500 + length, x.state(0));
        }
        CharMachine halted = lengthMachine(Op.HALT, 1);
        halted.run(1);
        due.same("behind the halt, too", 501, halted.state(0));
        new Bench(due, "behind a stop by 2").seven(2, Op.MOVE, 1400, 1400).i(707);
        new Bench(due, "behind a stop by 4").two(4, Op.READ, 1).i(702);
    }

    private static void stopsThatChangeNothing(Due due) {
        for (int[] instruction : new int[][] {{36, 3}, {36, 6}, {36, 9}, {0, 1}, {63, 7}, {50, 7}, {21, 4}, {40, 1}}) {
            CharMachine x = lengthMachine(instruction[0], instruction[1]);
            int marks = x.count(3);
            String what = "operation " + instruction[0] + ", length " + instruction[1];
            due.same(what, 3, x.run(1));
            due.same(what + ": I", 500, x.state(0));
            due.same(what + ": A", 605, x.state(1));
            due.same(what + ": B", 606, x.state(2));
            due.same(what + ": marks", marks, x.count(3));
            due.same(what + ": cards", 1, x.count(0));
        }
        CharMachine x = lengthMachine(Op.READ, 1);
        x.set(500, Op.READ, false);
        due.same("no mark", 1, x.run(1));
        due.same("no mark: I, A, B", 500605606, x.state(0) * 1000000 + x.state(1) * 1000 + x.state(2));
        due.same("no mark: cards", 1, x.count(0));
    }

    private static void aAddress(Due due) {
        for (int length : new int[] {1, 2, 4, 5, 7, 8}) {
            CharMachine x = lengthMachine(Op.NOP, length);
            x.run(1);
            due.same("length " + length, length >= 4 ? 111 : 605, x.state(1));
        }
        Bench x = new Bench(due, "edges").registers(15999, 1).a(15999).registers(0, 1).a(0);
        x.four(0, Op.NOP, 15999).a(15999).five(0, Op.NOP, 0, 63).a(0);
    }

    private static void bAddress(Due due) {
        Bench x = new Bench(due, "edges").registers(1, 15999).b(15999).registers(1, 0).b(0);
        x.eight(0, Op.NOP, 1, 15999, 63).a(1).b(15999).eight(0, Op.NOP, 1, 0, 63).b(0);
        x.eight(0, Op.BRANCH, 345, 605, 63).b(604).a(345);
    }

    private static void bBecomesTheAAddress(Due due) {
        Bench x = new Bench(due, "B").registers(11, 22).four(0, Op.NOP, 345).b(345);
        x.registers(11, 22).five(0, Op.NOP, 346, 1).b(346);
        x.registers(11, 22).four(0, Op.BRANCH, 347).b(347);
        x.registers(11, 22).five(0, Op.BRANCH, 348, 63).b(348);
        x.registers(11, 22).four(6, Op.HALT, 349).b(349);
        x.registers(11, 22).four(4, Op.READ, 350).b(350).five(4, Op.READ, 351, 1).b(351);
        int[] others = {Op.ADD, Op.SUBTRACT, Op.ZERO_ADD, Op.ZERO_SUBTRACT, Op.COMPARE, Op.MARK, Op.UNMARK,
            Op.CLEAR, Op.SUPPRESS};
        for (int operation : others) {
            x.registers(11, 22).four(2, operation, 1405).a(1405).b(1405);
        }
    }

    private static void bStays(Due due) {
        int[] keeping = {Op.MOVE, Op.LOAD, Op.DIGIT, Op.ZONE};
        for (int operation : keeping) {
            Bench x = new Bench(due, "B of " + operation).field(605, 21).field(625, 34);
            x.registers(1, 625).four(0, operation, 605).a(604).b(624);
        }
        Bench x = new Bench(due, "B of Q, H").registers(1, 625);
        x.four(0, Op.STORE_A, 605).a(602).b(625).four(0, Op.STORE_B, 615).a(612).b(625);
    }

    private static void chains(Due due) {
        Bench x = new Bench(due, "chains").registers(15999, 0);
        x.one(0, Op.NOP).a(15999).b(0).two(0, Op.NOP, 63).a(15999).b(0);
        Bench y = new Bench(due, "M chains").field(603, 1, 2).field(605, 3, 4).plain(625, 9, 9, 9, 9);
        y.registers(605, 625).one(0, Op.MOVE).a(603).b(623).one(0, Op.MOVE).a(601).b(621).is(625, 1, 2, 3, 4);
        Bench z = new Bench(due, "A behind M").field(603, 1, 2).field(605, 3, 4).field(623, 5, 6);
        z.seven(0, Op.MOVE, 605, 625).one(0, Op.ADD).is(625, 6, 8, 3, 4).a(601).b(621);
    }

    private static void modifiers(Due due) {
        Bench x = new Bench(due, "modifiers").five(0, Op.BRANCH, 345, 0).i(345);
        x.five(0, Op.BRANCH, 345, 63).i(705);
        x.field(605, 63).eight(0, Op.BRANCH, 345, 605, 63).i(345).eight(0, Op.BRANCH, 345, 605, 0).i(708);
        x.two(0, Op.PRINT, 0).two(0, Op.PRINT, 63).count(1, 2);
    }

    private static void stopEndsTheRun(Due due) {
        CharMachine x = new CharMachine(400);
        x.put(350, 0x253B2525FFFFFFFFL, 15);
        x.start(350);
        due.same("run(20000)", 6, x.run(20000));
        due.same("two steps", 2, x.state(6));
        due.same("I", 352, x.state(0));
        CharMachine full = new CharMachine(400);
        full.put(350, 0x01250000FFFFFFFFL, 7);
        full.start(350);
        due.same("no card", 4, full.run(20000));
        due.same("one step", 1, full.state(6));
        due.same("I", 351, full.state(0));
    }

    private static void goesOnFromI(Due due) {
        CharMachine x = new CharMachine(400);
        x.put(350, 0x3B3B0125FFFFFFFFL, 15);
        x.start(350);
        due.same("the first halt", 6, x.run(5));
        due.same("the second halt", 6, x.run(5));
        due.same("no card", 4, x.run(5));
        due.same("behind it: no end", 3, x.run(5));
        due.same("the same again", 3, x.run(5));
        due.same("I", 353, x.state(0));
        x.set(354, 0, true);
        due.same("an end now", 0, x.run(1));
        due.same("I", 354, x.state(0));
        due.same("steps", 6, x.state(6));
    }
}
