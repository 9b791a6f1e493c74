/** Every sentence about M, L, D, Y, the comma, ), /, Z, Q and H that names a boundary, by a test of its own. */
public final class BoundaryMoveTest {
    public static void main(String[] args) {
        Sentences all = new Sentences();
        moves(all);
        marksAndClearing(all);
        zerosAndAddresses(all);
        all.end();
    }

    private static void moves(Sentences all) {
        all.holds("M: characters at a go to b, one after the other", BoundaryMoveTest::moveOneAfterTheOther);
        all.holds("M: up to the first one of which a or b has a word mark", BoundaryMoveTest::moveUpTo);
        all.holds("M: marks stay", BoundaryMoveTest::moveMarksStay);
        all.holds("M: a and b go one to the left with each character", BoundaryMoveTest::movePlaces);
        all.holds("L: characters and marks of the field at A go to b", BoundaryMoveTest::load);
        all.holds("L: (as it is ahead of this)", BoundaryMoveTest::loadAhead);
        all.holds("L: whose own marks there go", BoundaryMoveTest::loadMarksGo);
        all.holds("D, Y: the digit bits, or the zone bits, go to that at B", BoundaryMoveTest::bits);
        all.holds("D, Y: A and B one less", BoundaryMoveTest::bitsPlaces);
    }

    private static void marksAndClearing(Sentences all) {
        all.holds(", ): word marks are set, or cleared, at A and at B", BoundaryMoveTest::marks);
        all.holds(", ): A and B one less", BoundaryMoveTest::marksPlaces);
        all.holds(", ): (with length 4 both are the A-address)", BoundaryMoveTest::marksOfOne);
        all.holds("/: down to the nearest multiple of 100, that included", BoundaryMoveTest::clearDownTo);
        all.holds("/: all become blanks without marks", BoundaryMoveTest::clearToBlanks);
        all.holds("/: (with length 4 that is the A-address)", BoundaryMoveTest::clearByLength);
        all.holds("/: B is one less than the last one; A stays", BoundaryMoveTest::clearPlaces);
        all.holds("/: with length 7 I becomes A, and then A the place that I had", BoundaryMoveTest::clearAndGo);
    }

    private static void zerosAndAddresses(Sentences all) {
        all.holds("Z: the characters go to b, one after the other", BoundaryMoveTest::suppressOverlap);
        all.holds("Z: that of the units without its zone", BoundaryMoveTest::suppressUnits);
        all.holds("Z: marks stay", BoundaryMoveTest::suppressMarks);
        all.holds("Z: blanks (0) come in place of 10, 0 and 27", BoundaryMoveTest::suppressed);
        all.holds("Z: up to the first other character", BoundaryMoveTest::suppressUpTo);
        all.holds("Z: or the end of what was moved", BoundaryMoveTest::suppressAll);
        all.holds("Z: A is left of its field, B one right of the units", BoundaryMoveTest::suppressPlaces);
        all.holds("Q: the address that A had ahead of this instruction", BoundaryMoveTest::storeA);
        all.holds("H: or B", BoundaryMoveTest::storeB);
        all.holds("Q, H: modulo 16000 (0 .. 15999)", BoundaryMoveTest::storeModulo);
        all.holds("Q, H: three characters, the last one at the A-address", BoundaryMoveTest::storeThree);
        all.holds("Q, H: zones as above, tens without", BoundaryMoveTest::storeZones);
        all.holds("Q, H: marks stay", BoundaryMoveTest::storeMarks);
        all.holds("Q, H: then A is three less, B what it was", BoundaryMoveTest::storePlaces);
    }

    private static void moveOneAfterTheOther(Due due) {
        new Bench(due, "one left").field(605, 1, 2, 3, 4, 5).seven(0, Op.MOVE, 605, 604).is(605, 5, 5, 5, 5, 5);
        new Bench(due, "two left").field(605, 1, 2, 3, 4, 5).seven(0, Op.MOVE, 605, 603).is(605, 5, 4, 5, 4, 5);
        new Bench(due, "one right").field(605, 1, 2, 3, 4, 5).seven(0, Op.MOVE, 604, 605).is(605, 1, 1, 2, 3, 4);
        new Bench(due, "onto itself").field(605, 1, 2, 3).seven(0, Op.MOVE, 605, 605).is(605, 1, 2, 3).a(602).b(602);
    }

    private static void moveUpTo(Due due) {
        new Bench(due, "a's mark").field(605, 1, 2).field(625, 9, 9, 9).seven(0, Op.MOVE, 605, 625).is(625, 9, 1, 2);
        new Bench(due, "b's mark").field(605, 1, 2, 3).field(625, 9, 9).seven(0, Op.MOVE, 605, 625).is(625, 0, 2, 3);
        new Bench(due, "both").field(605, 1, 2).field(625, 9, 9).seven(0, Op.MOVE, 605, 625).is(625, 0, 1, 2);
        new Bench(due, "a's units").plain(604, 8).field(605, 5).field(625, 9, 9)
            .seven(0, Op.MOVE, 605, 625).is(625, 9, 5);
        new Bench(due, "b's units").field(605, 5, 6).plain(624, 9).field(625, 9)
            .seven(0, Op.MOVE, 605, 625).is(625, 9, 6);
        new Bench(due, "a alone has one").field(605, 1, 2).plain(1, 8, 9).seven(0, Op.MOVE, 605, 1).is(1, 1, 2);
        new Bench(due, "b alone has one").plain(1, 8, 9).field(625, 1, 2).seven(0, Op.MOVE, 1, 625).is(625, 8, 9);
    }

    private static void moveMarksStay(Due due) {
        Bench x = new Bench(due, "marks").field(605, 1, 2, 3).field(625, 7, 8, 9);
        x.seven(0, Op.MOVE, 605, 625).marks("0100", 605).marks("0100", 625);
        Bench y = new Bench(due, "none comes along").field(605, 1, 2, 3).plain(625, 7, 8, 9);
        y.seven(0, Op.MOVE, 605, 625).marks("0100", 605).marks("0000", 625).is(625, 1, 2, 3);
        Bench z = new Bench(due, "b's one stays").plain(605, 1, 2, 3).field(625, 7, 8, 9);
        z.seven(0, Op.MOVE, 605, 625).marks("000", 605).marks("0100", 625).is(625, 1, 2, 3);
    }

    private static void movePlaces(Due due) {
        new Bench(due, "one").field(605, 1).seven(0, Op.MOVE, 605, 625).a(604).b(624);
        new Bench(due, "to the start").field(605, 1, 2).seven(0, Op.MOVE, 605, 1).a(603).b(-1);
        new Bench(due, "from the start").field(0, 1).seven(0, Op.MOVE, 0, 1399).a(-1).b(1398).is(1399, 1);
        new Bench(due, "all ahead of it").field(0, 1).seven(0, Op.MOVE, 699, 699).a(-1).b(-1);
    }

    private static void load(Due due) {
        Bench x = new Bench(due, "L").field(605, 1, 50, 63).plain(625, 9, 9, 9, 9);
        x.seven(0, Op.LOAD, 605, 625).is(625, 9, 1, 50, 63).marks("0100", 625).is(605, 1, 50, 63).marks("100", 605);
        new Bench(due, "L of one").field(605, 63).seven(0, Op.LOAD, 605, 0).is(0, 63).marks("1", 0).a(604).b(-1);
        new Bench(due, "L at the end").field(605, 1, 2).seven(0, Op.LOAD, 605, 1399).is(1399, 1, 2).b(1397);
        new Bench(due, "L of the first").field(0, 5).seven(0, Op.LOAD, 0, 1399)
            .is(1399, 5).marks("1", 1399).a(-1).b(1398);
    }

    private static void loadAhead(Due due) {
        new Bench(due, "one left").field(605, 1, 2, 3, 4).seven(0, Op.LOAD, 605, 604)
            .is(605, 1, 2, 3, 4, 4).marks("10000", 605).a(601).b(600);
        new Bench(due, "one right").field(605, 1, 2, 3, 4).seven(0, Op.LOAD, 605, 606)
            .is(606, 1, 1, 2, 3, 4).marks("11000", 606).a(601).b(602);
        new Bench(due, "by its length left").field(605, 1, 2).seven(0, Op.LOAD, 605, 603)
            .is(605, 1, 2, 1, 2).marks("1010", 605);
        new Bench(due, "onto itself").field(605, 1, 2).seven(0, Op.LOAD, 605, 605).is(605, 1, 2).marks("10", 605);
    }

    private static void loadMarksGo(Due due) {
        Bench x = new Bench(due, "marks go").field(605, 1, 2, 3);
        x.field(622, 6).field(623, 7).field(624, 8).field(625, 9).field(626, 5);
        x.seven(0, Op.LOAD, 605, 625).is(626, 6, 1, 2, 3, 5).marks("11001", 626);
    }

    private static void bits(Due due) {
        Bench x = new Bench(due, "D").field(605, 63).field(625, 0).seven(0, Op.DIGIT, 605, 625).is(625, 15);
        x.field(605, 48).field(625, 31).seven(0, Op.DIGIT, 605, 625).is(625, 16).is(605, 48);
        Bench y = new Bench(due, "Y").field(605, 63).field(625, 0).seven(0, Op.ZONE, 605, 625).is(625, 48);
        y.field(605, 15).field(625, 63).seven(0, Op.ZONE, 605, 625).is(625, 15).is(605, 15);
        for (int operation : new int[] {Op.DIGIT, Op.ZONE}) {
            new Bench(due, "onto itself").field(605, 45).seven(0, operation, 605, 605).is(605, 45).a(604).b(604);
            new Bench(due, "marks").field(605, 1).plain(625, 1).seven(0, operation, 605, 625)
                .marks("1", 605).marks("0", 625).seven(0, operation, 625, 605).marks("1", 605);
        }
    }

    private static void bitsPlaces(Due due) {
        for (int operation : new int[] {Op.DIGIT, Op.ZONE}) {
            Bench x = new Bench(due, "places").seven(0, operation, 0, 1399).a(-1).b(1398);
            x.seven(0, operation, 1399, 0).a(1398).b(-1);
            x.registers(605, 625).one(0, operation).a(604).b(624).one(0, operation).a(603).b(623);
        }
    }

    private static void marks(Due due) {
        Bench x = new Bench(due, "set").plain(605, 1, 63).plain(625, 0, 5);
        x.seven(0, Op.MARK, 605, 625).marks("01", 605).marks("01", 625).is(605, 1, 63).is(625, 0, 5);
        x.seven(0, Op.MARK, 605, 624).marks("01", 605).marks("11", 625);
        x.seven(0, Op.UNMARK, 605, 625).marks("00", 605).marks("10", 625).is(605, 1, 63).is(625, 0, 5);
        x.seven(0, Op.UNMARK, 605, 624).marks("00", 605).marks("00", 625);
        x.seven(0, Op.MARK, 0, 1399).marks("1", 0).marks("1", 1399);
        x.seven(0, Op.UNMARK, 1399, 0).marks("0", 0).marks("0", 1399);
    }

    private static void marksPlaces(Due due) {
        for (int operation : new int[] {Op.MARK, Op.UNMARK}) {
            Bench x = new Bench(due, "places").seven(0, operation, 0, 1399).a(-1).b(1398);
            x.seven(0, operation, 1399, 0).a(1398).b(-1).seven(0, operation, 605, 605).a(604).b(604);
            x.one(0, operation).a(603).b(603);
        }
    }

    private static void marksOfOne(Due due) {
        Bench x = new Bench(due, "one").registers(605, 625).four(0, Op.MARK, 0).a(-1).b(-1);
        x.marks("10", 1).marks("0", 605).marks("0", 625);
        x.four(0, Op.MARK, 1399).a(1398).b(1398).marks("1", 1399).four(0, Op.UNMARK, 1399).marks("0", 1399).b(1398);
    }

    private static void isCleared(Due due, int size, int from, int last) {
        Bench x = new Bench(due, "/ from " + from, size);
        for (int position : new int[] {last - 1, last, from, from + 1}) {
            x.machine.set(position, 63, true);
        }
        // The instruction stands where it is not cleared.
        int place = from < 200 ? 300 : 50;
        int[] p = Bench.address(from);
        x.instruction(place, Op.CLEAR, p[0], p[1], p[2]);
        due.same("/ from " + from, 0, x.machine.run(1));
        x.b(last - 1).a(from).is(from, 0).marks("0", from).is(last, 0).marks("0", last);
        isKept(x, last - 1);
        isKept(x, from + 1);
    }

    private static void isKept(Bench x, int position) {
        if (position >= 0 && position < x.machine.state(8)) {
            x.is(position, 63).marks("1", position);
        }
    }

    private static void clearDownTo(Due due) {
        isCleared(due, 1400, 0, 0);
        isCleared(due, 1400, 1, 0);
        isCleared(due, 1400, 99, 0);
        isCleared(due, 1400, 100, 100);
        isCleared(due, 1400, 101, 100);
        isCleared(due, 1400, 199, 100);
        isCleared(due, 1400, 200, 200);
        isCleared(due, 400, 399, 300);
        isCleared(due, 400, 300, 300);
        isCleared(due, 1400, 1399, 1300);
        isCleared(due, 1999, 1998, 1900);
        isCleared(due, 2000, 1999, 1900);
        isCleared(due, 2000, 1000, 1000);
    }

    private static void clearToBlanks(Due due) {
        Bench x = new Bench(due, "/");
        for (int from = 300; from < 400; from += 4) {
            x.machine.put(from, 0x3F0A0110FFFFFFFFL, 5);
        }
        x.four(0, Op.CLEAR, 399);
        for (int position = 300; position < 400; position++) {
            x.is(position, 0).marks("0", position);
        }
        Bench y = new Bench(due, "/ of its own instruction").four(0, Op.CLEAR, 702);
        y.i(704).b(699).is(703, 0, 0, 0, 2).marks("00001", 704).is(704, Op.NOP);
    }

    private static void clearByLength(Due due) {
        Bench x = new Bench(due, "/ 4").field(305, 5).field(605, 6).registers(305, 305).four(0, Op.CLEAR, 605);
        x.is(605, 0).is(305, 5).a(605).b(599);
        x.field(605, 6).registers(605, 305).one(0, Op.CLEAR).is(305, 0).is(605, 6).a(605).b(299);
        x.field(305, 5).seven(0, Op.CLEAR, 605, 305).is(305, 0).is(605, 6);
    }

    private static void clearPlaces(Due due) {
        Bench x = new Bench(due, "/").registers(15999, 205).one(0, Op.CLEAR).a(15999).b(199).i(701);
        x.one(0, Op.CLEAR).b(99).one(0, Op.CLEAR).b(-1).one(2, Op.CLEAR).b(-1).a(15999);
    }

    private static void clearAndGo(Due due) {
        Bench x = new Bench(due, "/ 7").field(305, 5).seven(0, Op.CLEAR, 345, 305).i(345).a(707).b(299).is(305, 0);
        x.seven(0, Op.CLEAR, 15999, 0).i(15999).a(707).b(-1);
        due.same("there is no such place", 2, x.machine.run(1));
        x.seven(0, Op.CLEAR, 0, 99).i(0).a(707).b(-1);
    }

    private static void suppressOverlap(Due due) {
        new Bench(due, "one left").field(605, 1, 2, 3, 52).seven(0, Op.SUPPRESS, 605, 604).is(605, 4, 4, 4, 4, 52);
        new Bench(due, "one right").field(605, 1, 2, 3, 52).seven(0, Op.SUPPRESS, 605, 606).is(606, 1, 1, 2, 3, 4);
        new Bench(due, "onto itself").field(605, 10, 2, 52).four(0, Op.SUPPRESS, 605).is(605, 0, 2, 4);
    }

    private static void suppressUnits(Due due) {
        for (int zone = 0; zone < 64; zone += 16) {
            new Bench(due, "zone " + zone).field(605, zone + 5, zone + 10, zone + 7).seven(0, Op.SUPPRESS, 605, 625)
                .is(625, zone + 5, zone + 10, 7).is(605, zone + 5, zone + 10, zone + 7);
            new Bench(due, "zone of one " + zone).field(605, zone + 7).seven(0, Op.SUPPRESS, 605, 625).is(625, 7);
        }
    }

    private static void suppressMarks(Due due) {
        Bench x = new Bench(due, "marks").field(605, 10, 10, 10).plain(625, 9, 9, 9);
        x.machine.set(624, 9, true);
        x.seven(0, Op.SUPPRESS, 605, 625).marks("010", 625).marks("100", 605).is(625, 0, 0, 0);
        x.field(605, 1, 2, 3).seven(0, Op.SUPPRESS, 605, 625).marks("010", 625).is(625, 1, 2, 3);
    }

    private static void suppressed(Due due) {
        for (int character = 0; character < 64; character++) {
            boolean goes = character == 10 || character == 0 || character == 27;
            new Bench(due, "character " + character).field(605, character, 10, 5).seven(0, Op.SUPPRESS, 605, 625)
                .is(625, goes ? 0 : character, goes ? 0 : 10, 5);
        }
    }

    private static void suppressUpTo(Due due) {
        new Bench(due, "at once").field(605, 1, 10, 0, 27, 10).seven(0, Op.SUPPRESS, 605, 625)
            .is(625, 1, 10, 0, 27, 10);
        new Bench(due, "then").field(605, 10, 27, 0, 1, 10, 27, 10).seven(0, Op.SUPPRESS, 605, 625)
            .is(625, 0, 0, 0, 1, 10, 27, 10);
        new Bench(due, "the units").field(605, 10, 10, 1).seven(0, Op.SUPPRESS, 605, 625).is(625, 0, 0, 1);
        new Bench(due, "a zero with a zone").field(605, 10, 26, 10, 10).seven(0, Op.SUPPRESS, 605, 625)
            .is(625, 0, 26, 10, 10);
        new Bench(due, "a comma at the units is 11").field(605, 10, 27).seven(0, Op.SUPPRESS, 605, 625).is(625, 0, 11);
    }

    private static void suppressAll(Due due) {
        new Bench(due, "all").field(605, 10, 0, 27, 58).plain(626, 10).seven(0, Op.SUPPRESS, 605, 625)
            .is(626, 0, 0, 0, 0, 10);
        new Bench(due, "of one").field(605, 48).plain(626, 10).seven(0, Op.SUPPRESS, 605, 625).is(626, 0, 10);
        new Bench(due, "ahead of it").field(605, 10).plain(624, 10).seven(0, Op.SUPPRESS, 605, 625).is(625, 10, 0);
    }

    private static void suppressPlaces(Due due) {
        Bench x = new Bench(due, "places").field(605, 1, 2).field(0, 3);
        x.seven(0, Op.SUPPRESS, 605, 625).a(603).b(626).seven(0, Op.SUPPRESS, 605, 1399).a(603).b(1400);
        x.seven(0, Op.SUPPRESS, 0, 0).a(-1).b(1).seven(0, Op.SUPPRESS, 605, 1).a(603).b(2).is(1, 1, 2);
    }

    private static void storeA(Due due) {
        Bench x = new Bench(due, "Q").registers(123, 456).four(0, Op.STORE_A, 605).is(605, 1, 2, 3);
        x.four(0, Op.STORE_A, 615).is(615, 6, 10, 2);
        new Bench(due, "Q at first").four(0, Op.STORE_A, 605).is(605, 10, 10, 10);
        new Bench(due, "Q behind a branch").five(0, Op.BRANCH, 345, 0).four(0, Op.STORE_A, 605).is(605, 7, 10, 5);
    }

    private static void storeB(Due due) {
        Bench x = new Bench(due, "H").registers(123, 456).four(0, Op.STORE_B, 605).is(605, 4, 5, 6);
        x.four(0, Op.STORE_B, 615).is(615, 4, 5, 6);
        new Bench(due, "H at first").four(0, Op.STORE_B, 605).is(605, 10, 10, 10);
        new Bench(due, "H behind a line").one(0, Op.PRINT).four(0, Op.STORE_B, 605).is(605, 3, 3, 3);
    }

    private static void storeModulo(Due due) {
        new Bench(due, "H of -1").four(0, Op.MARK, 0).b(-1).four(0, Op.STORE_B, 605).is(605, 57, 9, 57).b(-1);
        new Bench(due, "Q of -1").four(0, Op.MARK, 0).a(-1).four(0, Op.STORE_A, 605).is(605, 57, 9, 57).a(602);
        new Bench(due, "H of 15999").registers(0, 15999).four(0, Op.STORE_B, 605).is(605, 57, 9, 57).b(15999);
        new Bench(due, "Q of 0").registers(0, 1).four(0, Op.STORE_A, 605).is(605, 10, 10, 10);
    }

    private static void storeThree(Due due) {
        for (int operation : new int[] {Op.STORE_A, Op.STORE_B}) {
            Bench x = new Bench(due, "three").plain(606, 63, 63, 63, 63, 63).registers(123, 123);
            x.four(0, operation, 605).is(606, 63, 1, 2, 3, 63);
            Bench y = new Bench(due, "at the start").registers(123, 123).four(0, operation, 2).is(3, 1, 2, 3, 0);
            Bench z = new Bench(due, "at the end").registers(123, 123).four(0, operation, 1399).is(1399, 0, 1, 2, 3);
            y.four(2, operation, 1).is(3, 1, 2, 3, 0);
            z.four(2, operation, 1400).is(1399, 0, 1, 2, 3);
        }
    }

    private static void storeZones(Due due) {
        for (int thousands = 0; thousands < 16; thousands++) {
            int hundreds = thousands % 4 * 16;
            int units = thousands / 4 * 16;
            Bench x = new Bench(due, "zones " + thousands).plain(605, 63, 63, 63).plain(615, 63, 63, 63);
            x.registers(thousands * 1000 + 999, thousands * 1000);
            x.four(0, Op.STORE_A, 605).is(605, hundreds + 9, 9, units + 9);
            x.four(0, Op.STORE_B, 615).is(615, hundreds + 10, 10, units + 10);
        }
    }

    private static void storeMarks(Due due) {
        for (int operation : new int[] {Op.STORE_A, Op.STORE_B}) {
            Bench x = new Bench(due, "marks").field(604, 63).plain(605, 63).field(615, 63).registers(123, 123);
            x.four(0, operation, 605).marks("0010", 605).is(605, 1, 2, 3);
            x.registers(123, 123).four(0, operation, 615).marks("0001", 615).is(615, 1, 2, 3);
        }
    }

    private static void storePlaces(Due due) {
        for (int operation : new int[] {Op.STORE_A, Op.STORE_B}) {
            Bench x = new Bench(due, "places").registers(11, 15999).four(0, operation, 605).a(602).b(15999).i(704);
            x.four(0, operation, 2).a(-1).b(15999).four(0, operation, 1399).a(1396).b(15999);
        }
    }
}
