/** Every sentence of promises 6, 7 and 10 that names a boundary, by a test of its own. */
public final class BoundaryRunTest {
    private static final int LEAST = Integer.MIN_VALUE;
    private static final int MOST = Integer.MAX_VALUE;

    public static void main(String[] args) {
        Sentences all = new Sentences();
        all.holds("6: I is an address: true", BoundaryRunTest::startAtTheEnds);
        all.holds("6: false if there is no such position", BoundaryRunTest::startNoPosition);
        all.holds("7: up to so many steps: 0 if it goes on", BoundaryRunTest::runGoesOn);
        all.holds("7: else the reason of the stop", BoundaryRunTest::runTellsTheReason);
        all.holds("7: IllegalArgumentException if steps are not 1 .. 20000", BoundaryRunTest::runRefused);
        all.holds("10: 0: I, 1: A, 2: B", BoundaryRunTest::registers);
        all.holds("10: 3: 1 HIGH, 0 EQUAL, -1 LOW", BoundaryRunTest::comparison);
        all.holds("10: 4: 1 if OVERFLOW is on", BoundaryRunTest::overflow);
        all.holds("10: 5: LAST CARD", BoundaryRunTest::lastCard);
        all.holds("10: 6: steps so far (stopped ones, too)", BoundaryRunTest::stepsSoFar);
        all.holds("10: 7: the latest run's answer", BoundaryRunTest::latestAnswer);
        all.holds("10: 8: positions of the store", BoundaryRunTest::positionsOfTheStore);
        all.holds("10: NONE for another what", BoundaryRunTest::noSuchState);
        all.end();
    }

    private static void startAtTheEnds(Due due) {
        CharMachine x = new CharMachine(400);
        for (int at : new int[] {399, 0, 1, 398}) {
            due.yes("start(" + at + ")", x.start(at));
            due.same("start(" + at + "), I", at, x.state(0));
        }
    }

    private static void startNoPosition(Due due) {
        CharMachine x = new CharMachine(400);
        x.start(17);
        for (int at : new int[] {-1, 400, 1399, 15999, LEAST, MOST}) {
            due.no("start(" + at + ")", x.start(at));
            due.same("start(" + at + "), I stays", 17, x.state(0));
        }
    }

    private static CharMachine machineThatTurns() {
        CharMachine x = new CharMachine(400);
        x.put(350, 0x3203050AFFFFFFFFL, 1);
        x.set(354, 0, true);
        x.start(350);
        return x;
    }

    private static void runGoesOn(Due due) {
        CharMachine x = machineThatTurns();
        int steps = 0;
        for (int more : new int[] {1, 2, 19999, 20000}) {
            steps += more;
            due.same("run(" + more + ")", 0, x.run(more));
            due.same("run(" + more + "), steps", steps, x.state(6));
        }
        CharMachine y = OneStep.machine(Op.NOP);
        due.same("it stops behind its last step only", 0, y.run(1));
        due.same("I", 351, y.state(0));
    }

    private static void runTellsTheReason(Due due) {
        due.same("1", 1, new CharMachine(400).run(1));
        due.same("3", 3, OneStep.go(OneStep.machine(0)));
        due.same("4", 4, OneStep.go(OneStep.machine(Op.READ)));
        due.same("6", 6, OneStep.go(OneStep.machine(Op.HALT)));
        due.same("6, by the last of two steps", 6, haltBehindOneStep().run(2));
        due.same("6, with steps to spare", 6, haltBehindOneStep().run(20000));
        CharMachine outside = OneStep.machine(Op.CLEAR);
        OneStep.go(outside);
        due.same("2", 2, OneStep.go(outside));
        CharMachine full = OneStep.machine(Op.PUNCH);
        for (int n = 0; n < 20; n++) {
            due.same("punched", 0, OneStep.go(full));
        }
        due.same("5", 5, OneStep.go(full));
    }

    private static CharMachine haltBehindOneStep() {
        CharMachine x = OneStep.machine(Op.NOP);
        x.put(351, 0x3B00FFFFFFFFFFFFL, 3);
        return x;
    }

    private static void runRefused(Due due) {
        CharMachine x = haltBehindOneStep();
        x.run(2);
        x.start(350);
        for (int steps : new int[] {0, -1, -20000, 20001, LEAST, MOST}) {
            due.fails("run(" + steps + ")", IllegalArgumentException.class, () -> x.run(steps));
        }
        due.same("no step was done", 2, x.state(6));
        due.same("I stays", 350, x.state(0));
        due.same("the latest answer stays", 6, x.state(7));
        due.same("1 is enough", 0, x.run(1));
        due.same("20000 are not too many", 6, x.run(20000));
    }

    private static void registers(Due due) {
        Bench x = new Bench(due, "registers");
        x.registers(15999, 0).i(707).a(15999).b(0);
        x.registers(0, 15999).i(707).a(0).b(15999);
        x.four(0, Op.MARK, 0).i(704).a(-1).b(-1);
        x.one(0, Op.BRANCH).i(-1).a(701).b(-1);
    }

    private static void comparison(Due due) {
        Bench x = new Bench(due, "comparison").field(605, 5).state(3, 0);
        x.field(625, 6).seven(0, Op.COMPARE, 605, 625).state(3, 1);
        x.field(625, 5).seven(0, Op.COMPARE, 605, 625).state(3, 0);
        x.field(625, 4).seven(0, Op.COMPARE, 605, 625).state(3, -1);
    }

    private static void overflow(Due due) {
        Bench x = new Bench(due, "overflow").field(605, 5).field(625, 4).state(4, 0);
        x.seven(0, Op.ADD, 605, 625).state(4, 0).seven(0, Op.ADD, 605, 625).state(4, 1);
    }

    private static void lastCard(Due due) {
        Bench x = new Bench(due, "last card").state(5, 0);
        x.machine.card();
        x.state(5, 0).one(0, Op.READ).state(5, 1);
    }

    private static void stepsSoFar(Due due) {
        CharMachine x = new CharMachine(400);
        due.same("none", 0, x.state(6));
        x.run(20000);
        due.same("a stop by 1 counts", 1, x.state(6));
        CharMachine y = haltBehindOneStep();
        y.run(100);
        due.same("the halt counts", 2, y.state(6));
        y.run(100);
        due.same("a stop by 3 counts", 3, y.state(6));
        y.start(350);
        y.run(1);
        due.same("a start does not count", 4, y.state(6));
    }

    private static void latestAnswer(Due due) {
        CharMachine x = haltBehindOneStep();
        due.same("ahead of the first run", 0, x.state(7));
        x.run(2);
        due.same("a halt", 6, x.state(7));
        x.start(350);
        due.same("a start leaves it", 6, x.state(7));
        x.run(1);
        due.same("it goes on", 0, x.state(7));
        x.start(0);
        x.run(5);
        due.same("no mark", 1, x.state(7));
    }

    private static void positionsOfTheStore(Due due) {
        due.same("400", 400, new CharMachine(400).state(8));
        due.same("2000", 2000, new CharMachine(2000).state(8));
        due.same("399", 1400, new CharMachine(399).state(8));
    }

    private static void noSuchState(Due due) {
        CharMachine x = new CharMachine(400);
        for (int what : new int[] {-1, 9, 10, 64, LEAST, MOST}) {
            due.same("state(" + what + ")", CharMachine.NONE, x.state(what));
        }
    }
}
