/** Promise 7: M, L, D, Y, the comma, the parenthesis, the slash, Z, Q and H. */
public final class MoveTest {
    private static final Due DUE = new Due();

    public static void main(String[] args) {
        move();
        moveOverlapping();
        load();
        loadOverlapping();
        digitsAndZones();
        changeMarks();
        clear();
        clearAndGo();
        suppressZeros();
        suppressZerosOverlapping();
        storeAddresses();
        DUE.end();
    }

    private static void move() {
        Bench x = new Bench(DUE, "M up to A's mark").field(605, 1, 50, 63).field(625, 9, 9, 9, 9, 9);
        x.seven(0, Op.MOVE, 605, 625).is(625, 9, 9, 1, 50, 63).marks("010000", 625).a(602).b(622).i(707);
        Bench y = new Bench(DUE, "M up to B's mark").field(605, 1, 2, 3, 4).field(625, 9, 9);
        y.seven(0, Op.MOVE, 605, 625).is(625, 0, 3, 4).marks("010", 625).marks("1000", 605).a(603).b(623);
        Bench z = new Bench(DUE, "M chained").field(603, 1, 2).field(605, 3, 4).plain(625, 9, 9, 9, 9, 9);
        z.seven(0, Op.MOVE, 605, 625).one(0, Op.MOVE).is(625, 9, 1, 2, 3, 4).a(601).b(621);
        z.field(611, 7, 8).four(0, Op.MOVE, 611).is(625, 0, 7, 8, 1, 2, 3, 4).a(609).b(619);
    }

    private static void moveOverlapping() {
        new Bench(DUE, "M spreads").field(605, 1, 2, 3, 4, 5).seven(0, Op.MOVE, 605, 604)
            .is(605, 5, 5, 5, 5, 5).marks("10000", 605).a(601).b(600);
        new Bench(DUE, "M shifts").field(605, 1, 2, 3, 4, 5).seven(0, Op.MOVE, 604, 605)
            .is(605, 1, 1, 2, 3, 4).a(600).b(601);
    }

    private static void load() {
        Bench x = new Bench(DUE, "L").field(605, 1, 50, 63).field(625, 9, 9, 9, 9);
        x.machine.set(625, 9, true);
        x.machine.set(624, 9, true);
        x.seven(0, Op.LOAD, 605, 625).is(625, 9, 1, 50, 63).marks("1100", 625).marks("100", 605);
        x.a(602).b(622).i(707);
        x.field(602, 7).one(0, Op.LOAD).is(625, 7, 1, 50, 63).marks("1100", 625).a(601).b(621);
        x.field(611, 3, 4).four(0, Op.LOAD, 611).is(621, 3, 4).marks("10", 621).a(609).b(619);
        // B's field need not have a mark.
        new Bench(DUE, "L to the start").field(605, 1, 2, 3).seven(0, Op.LOAD, 605, 2)
            .is(2, 1, 2, 3).marks("100", 2).a(602).b(-1);
    }

    private static void loadOverlapping() {
        new Bench(DUE, "L left").field(605, 1, 2, 3, 4).seven(0, Op.LOAD, 605, 604)
            .is(605, 1, 2, 3, 4, 4).marks("10000", 605).a(601).b(600);
        new Bench(DUE, "L right").field(605, 1, 2, 3, 4).seven(0, Op.LOAD, 605, 606)
            .is(606, 1, 1, 2, 3, 4).marks("11000", 606).a(601).b(602);
        new Bench(DUE, "L onto itself").field(605, 1, 2, 3, 4).seven(0, Op.LOAD, 605, 605)
            .is(605, 1, 2, 3, 4).marks("1000", 605);
        new Bench(DUE, "L over the mark").field(605, 1, 2, 3, 4).seven(0, Op.LOAD, 605, 602)
            .is(605, 1, 2, 3, 4, 2, 3, 4).marks("1000000", 605).b(598);
    }

    private static void digitsAndZones() {
        Bench x = new Bench(DUE, "D").field(605, 33, 54).field(625, 26, 45);
        x.seven(0, Op.DIGIT, 605, 625).is(625, 26, 38).marks("10", 625).a(604).b(624).is(605, 33, 54);
        x.one(0, Op.DIGIT).is(625, 17, 38).marks("10", 625).a(603).b(623);
        Bench y = new Bench(DUE, "Y").field(605, 33, 54).field(625, 26, 13);
        y.seven(0, Op.ZONE, 605, 625).is(625, 26, 61).marks("10", 625).a(604).b(624).is(605, 33, 54);
        y.one(0, Op.ZONE).is(625, 42, 61).marks("10", 625).a(603).b(623);
        y.field(610, 5).four(0, Op.DIGIT, 610).is(623, 5).a(609).b(622);
        y.field(610, 21).four(0, Op.ZONE, 610).is(622, 16).a(609).b(621);
    }

    private static void changeMarks() {
        Bench x = new Bench(DUE, "marks").field(605, 7, 8).plain(625, 33, 44);
        x.seven(0, Op.MARK, 605, 625).marks("11", 605).marks("01", 625).a(604).b(624).i(707);
        x.one(0, Op.MARK).marks("11", 625).a(603).b(623).is(605, 7, 8).is(625, 33, 44);
        x.four(0, Op.MARK, 630).marks("010", 631).a(629).b(629);
        x.seven(0, Op.UNMARK, 605, 624).marks("10", 605).marks("01", 625).a(604).b(623);
        x.one(0, Op.UNMARK).marks("00", 605).marks("001", 625).a(603).b(622).is(605, 7, 8).is(625, 33, 44);
        x.four(0, Op.UNMARK, 630).marks("000", 631).a(629).b(629);
        x.seven(0, Op.MARK, 0, 1399).marks("1", 0).marks("1", 1399).a(-1).b(1398);
        x.seven(2, Op.UNMARK, 0, 1400).marks("1", 0);
        x.seven(2, Op.UNMARK, 1400, 0).marks("1", 0);
    }

    private static void clear() {
        Bench x = new Bench(DUE, "/").field(199, 7).field(200, 1).field(204, 2, 3).field(205, 4).field(206, 5);
        x.four(0, Op.CLEAR, 205).is(206, 7, 0, 0, 0, 0, 0, 0, 5).marks("10000001", 206).a(205).b(199).i(704);
        x.one(0, Op.CLEAR).is(199, 0).marks("0", 199).a(205).b(99).i(701);
        x.field(99, 6).field(0, 8).one(0, Op.CLEAR).is(99, 0).is(0, 0).marks("0", 99).marks("0", 0).a(205).b(-1);
        x.one(2, Op.CLEAR).a(205).b(-1);
        x.field(300, 6).field(299, 6).four(0, Op.CLEAR, 300).is(300, 6, 0).marks("10", 300).b(299);
        x.four(2, Op.CLEAR, 1400).a(1400).b(1400);
        x.four(0, Op.CLEAR, 1399).a(1399).b(1299);
        Bench y = new Bench(DUE, "/ behind the store", 450).field(440, 6);
        y.machine.set(20, Op.CLEAR, true);
        y.machine.put(21, 0x04060AFFFFFFFFFFL, 0);
        y.machine.set(24, 0, true);
        y.machine.start(20);
        DUE.same("/ behind the store", 2, y.machine.run(1));
        y.is(440, 6).marks("1", 440).b(460);
    }

    private static void clearAndGo() {
        Bench x = new Bench(DUE, "/ and go").field(350, 6).field(300, 6);
        x.seven(0, Op.CLEAR, 650, 350).i(650).a(707).b(299).is(350, 0).is(300, 0);
        x.seven(2, Op.CLEAR, 650, 1400).i(707).a(650).b(1400);
    }

    private static void suppressZeros() {
        Bench x = new Bench(DUE, "Z").field(605, 10, 0, 27, 10, 5, 58).field(625, 9, 9, 9, 9, 9, 9, 9);
        x.seven(0, Op.SUPPRESS, 605, 625).is(625, 9, 0, 0, 0, 0, 5, 10).marks("1000000", 625);
        x.a(599).b(626).i(707).is(605, 10, 0, 27, 10, 5, 58).marks("100000", 605);
        new Bench(DUE, "Z of nothing").field(605, 10, 27, 10, 42).field(626, 10)
            .seven(0, Op.SUPPRESS, 605, 625).is(626, 0, 0, 0, 0, 10).a(601).b(626);
        new Bench(DUE, "Z keeps zones").field(605, 26, 10, 21).seven(0, Op.SUPPRESS, 605, 625)
            .is(625, 26, 10, 5);
        new Bench(DUE, "Z ends there").field(605, 10, 1, 10, 27, 0, 48).seven(0, Op.SUPPRESS, 605, 625)
            .is(625, 0, 1, 10, 27, 0, 0);
        new Bench(DUE, "Z of specials").field(605, 11, 10, 59).seven(0, Op.SUPPRESS, 605, 625)
            .is(625, 11, 10, 11);
        new Bench(DUE, "Z of one").field(605, 42).seven(0, Op.SUPPRESS, 605, 625).is(625, 0).a(604).b(626);
        new Bench(DUE, "Z of the comma").field(605, 10, 27).seven(0, Op.SUPPRESS, 605, 625).is(625, 0, 11);
        new Bench(DUE, "Z of itself").field(605, 10, 27, 53).four(0, Op.SUPPRESS, 605)
            .is(605, 0, 0, 5).marks("100", 605).a(602).b(606);
        Bench y = new Bench(DUE, "Z by the registers").field(605, 10, 7).plain(1399, 9, 9);
        y.registers(605, 1399).one(0, Op.SUPPRESS).is(1399, 0, 7).a(603).b(1400);
        y.seven(2, Op.SUPPRESS, 605, 0).a(605).b(0).is(0, 0);
        y.seven(0, Op.SUPPRESS, 605, 1).a(603).b(2).is(1, 0, 7);
    }

    private static void suppressZerosOverlapping() {
        new Bench(DUE, "Z spreads").field(605, 1, 2, 3, 52).seven(0, Op.SUPPRESS, 605, 604)
            .is(605, 4, 4, 4, 4, 52).a(601).b(605);
        new Bench(DUE, "Z shifts").field(605, 10, 2, 3, 52).seven(0, Op.SUPPRESS, 605, 606)
            .is(606, 10, 0, 2, 3, 4).a(601).b(607);
    }

    private static void storeAddresses() {
        int[][] written = {{0, 10, 10, 10}, {123, 1, 2, 3}, {999, 9, 9, 9}, {1000, 26, 10, 10},
            {2000, 42, 10, 10}, {3000, 58, 10, 10}, {4000, 10, 10, 26}, {8000, 10, 10, 42},
            {15999, 57, 9, 57}, {9876, 24, 7, 38}, {6050, 42, 5, 26}};
        for (int[] w : written) {
            Bench x = new Bench(DUE, "Q " + w[0]).field(605, 63, 63, 63).registers(w[0], 77);
            x.four(0, Op.STORE_A, 605).is(605, w[1], w[2], w[3]).marks("100", 605).a(602).b(77).i(704);
            Bench y = new Bench(DUE, "H " + w[0]).field(605, 63, 63, 63).registers(77, w[0]);
            y.four(0, Op.STORE_B, 605).is(605, w[1], w[2], w[3]).marks("100", 605).a(602).b(w[0]).i(704);
        }
        Bench x = new Bench(DUE, "Q and H of -1").field(0, 5).registers(0, 0).one(0, Op.DIGIT);
        x.four(0, Op.STORE_B, 605).is(605, 57, 9, 57).a(602).b(-1);
        x.registers(0, 0).one(0, Op.DIGIT).four(0, Op.STORE_A, 605).is(605, 57, 9, 57).a(602).b(-1);
        x.registers(11, 12).four(2, Op.STORE_A, 1).a(1).b(12).is(1, 5, 0);
        x.four(2, Op.STORE_B, 1400).a(1400).b(12);
        x.four(0, Op.STORE_B, 2).a(-1).b(12).is(2, 10, 1, 2);
    }
}
