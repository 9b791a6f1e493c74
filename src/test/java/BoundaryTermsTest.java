/** Every sentence of 'Terms' ahead of the step that names a boundary, by a test of its own. */
public final class BoundaryTermsTest {
    private static final int B = 32;
    private static final int A = 16;

    public static void main(String[] args) {
        Sentences all = new Sentences();
        all.holds("A CHARACTER is 0 .. 63", BoundaryTermsTest::characters);
        all.holds("its ZONE bits are 32 (B) and 16 (A), its DIGIT bits the lowest four", BoundaryTermsTest::bits);
        all.holds("Its VALUE is the digit bits modulo 10", BoundaryTermsTest::values);
        all.holds("a digit v is written 10 for 0, else v", BoundaryTermsTest::digitsWritten);
        all.holds("0 is the blank", BoundaryTermsTest::blank);
        all.holds("The STORE: at first blanks without marks", BoundaryTermsTest::storeAtFirst);
        all.holds("An ADDRESS is told by three characters: their values", BoundaryTermsTest::addressValues);
        all.holds("1000, 2000 by the hundreds, 4000, 8000 by the units", BoundaryTermsTest::addressZones);
        all.holds("the zones of the tens are not looked at", BoundaryTermsTest::addressTens);
        all.holds("STOPS by reason 2: a position behind the store", BoundaryTermsTest::behindTheStore);
        all.holds("STOPS by reason 2: (a negative one, too)", BoundaryTermsTest::negative);
        all.holds("STOPS by reason 2: a field without its left end", BoundaryTermsTest::noLeftEnd);
        all.holds("STOPS by reason 2: one position is not there", BoundaryTermsTest::partlyThere);
        all.holds("does nothing of its own", BoundaryTermsTest::nothingOfItsOwn);
        all.holds("(registers are as its addresses made them)", BoundaryTermsTest::registersOfAStop);
        all.holds("A FIELD goes on up to the first position with a word mark", BoundaryTermsTest::fields);
        all.holds("INDICATORS: EQUAL at first", BoundaryTermsTest::equalAtFirst);
        all.holds("UNEQUAL is HIGH or LOW", BoundaryTermsTest::unequal);
        all.holds("OVERFLOW, LAST CARD (both off at first)", BoundaryTermsTest::offAtFirst);
        all.end();
    }

    private static void characters(Due due) {
        CharMachine x = new CharMachine(400);
        due.no("-1", x.set(0, -1, false));
        for (int character = 0; character < 64; character++) {
            due.yes("" + character, x.set(0, character, false));
            due.same("" + character, character, x.at(0));
        }
        due.no("64", x.set(0, 64, false));
    }

    private static void bits(Due due) {
        Bench x = new Bench(due, "bits");
        x.field(605, 63).field(625, 0).seven(0, Op.ZONE, 605, 625).is(625, 48);
        x.field(605, 0).field(625, 63).seven(0, Op.ZONE, 605, 625).is(625, 15);
        x.field(605, 63).field(625, 0).seven(0, Op.DIGIT, 605, 625).is(625, 15);
        x.field(605, 0).field(625, 63).seven(0, Op.DIGIT, 605, 625).is(625, 48);
        x.field(605, B).field(625, A).seven(0, Op.ZONE, 605, 625).is(625, B);
        x.eight(0, Op.TEST, 345, 625, 34).i(345);
        x.field(625, A).eight(0, Op.TEST, 345, 625, 18).i(345);
    }

    private static void values(Due due) {
        Bench x = new Bench(due, "values", 400);
        int[] values = {0, 1, 2, 3, 4, 5, 6, 7, 8, 9, 0, 1, 2, 3, 4, 5};
        for (int bits = 0; bits < 16; bits++) {
            x.field(20, bits).number(20, values[bits]);
            x.field(20, 48 + bits, 10).number(20, 10 * values[bits]);
            x.field(20, B + bits).number(20, -values[bits]);
        }
    }

    private static void digitsWritten(Due due) {
        for (int digit = 0; digit < 10; digit++) {
            Bench x = new Bench(due, "digit " + digit).field(605, digit == 0 ? 0 : digit, digit);
            x.field(625, 7, 7).seven(0, Op.ZERO_ADD, 605, 625);
            x.is(625, digit == 0 ? 10 : digit, 48 + (digit == 0 ? 10 : digit));
        }
        new Bench(due, "digits above 10").field(605, 15, 11).field(625, 7, 7)
            .seven(0, Op.ZERO_ADD, 605, 625).is(625, 5, 48 + 1);
        new Bench(due, "a carry leaves 0").field(605, 1).field(625, 9, 9).seven(0, Op.ADD, 605, 625).is(625, 10, 10);
        new Bench(due, "an address").field(605, 1, 1, 1).registers(0, 0).four(0, Op.STORE_A, 605).is(605, 10, 10, 10);
    }

    private static void blank(Due due) {
        new Bench(due, "cleared").field(305, 63).four(0, Op.CLEAR, 305).is(305, 0);
        new Bench(due, "suppressed").field(605, 10, 5).field(625, 9, 9).seven(0, Op.SUPPRESS, 605, 625).is(625, 0, 5);
        Bench x = new Bench(due, "an empty card").field(1, 63);
        x.machine.card();
        x.one(0, Op.READ).is(1, 0);
    }

    private static void storeAtFirst(Due due) {
        for (int from : new int[] {0, 200, 400, 1200, 1800}) {
            CharMachine x = new CharMachine(2000);
            due.same("marks", 0, x.count(3));
            for (int position = from; position < from + 200; position++) {
                due.same("at(" + position + ")", 0, x.at(position));
                due.no("isMarked(" + position + ")", x.isMarked(position));
            }
        }
    }

    private static void isAddress(Due due, int hundreds, int tens, int units, int address) {
        Bench x = new Bench(due, "address of " + hundreds + " " + tens + " " + units);
        x.instruction(700, Op.NOP, hundreds, tens, units, units, tens, hundreds).machine.run(1);
        x.a(address);
    }

    private static void addressValues(Due due) {
        isAddress(due, 10, 10, 10, 0);
        isAddress(due, 0, 0, 0, 0);
        isAddress(due, 10, 10, 1, 1);
        isAddress(due, 10, 1, 10, 10);
        isAddress(due, 1, 10, 10, 100);
        isAddress(due, 9, 9, 9, 999);
        isAddress(due, 11, 12, 13, 123);
        isAddress(due, 15, 15, 15, 555);
    }

    private static void addressZones(Due due) {
        for (int zones = 0; zones < 16; zones++) {
            isAddress(due, zones % 4 * 16 + 10, 10, zones / 4 * 16 + 10, zones * 1000);
            isAddress(due, zones % 4 * 16 + 9, 9, zones / 4 * 16 + 9, zones * 1000 + 999);
        }
        new Bench(due, "the B-address").registers(0, 15999).b(15999).registers(15999, 0).b(0);
        new Bench(due, "the B-address").registers(1000, 2000).b(2000).registers(4000, 8000).b(8000);
    }

    private static void addressTens(Due due) {
        for (int zone = 0; zone < 64; zone += 16) {
            isAddress(due, 10, zone + 10, 10, 0);
            isAddress(due, 1, zone + 2, 3, 123);
            isAddress(due, 63, zone + 9, 63, 15595);
        }
    }

    /** Operations that look at the position at A, and those that look at the one at B. */
    private static final int[] BY_BOTH = {Op.ADD, Op.SUBTRACT, Op.ZERO_ADD, Op.ZERO_SUBTRACT, Op.MOVE, Op.LOAD,
        Op.DIGIT, Op.ZONE, Op.COMPARE, Op.MARK, Op.UNMARK, Op.SUPPRESS};
    private static final int[] BY_FIELDS = {Op.ADD, Op.SUBTRACT, Op.ZERO_ADD, Op.ZERO_SUBTRACT, Op.MOVE, Op.LOAD,
        Op.COMPARE, Op.SUPPRESS};

    private static Bench twoFields(Due due, String name) {
        return new Bench(due, name).field(605, 1, 2, 19).field(625, 4, 5, 38);
    }

    private static void areAsTheyWere(Bench x) {
        x.is(605, 1, 2, 19).marks("100", 605).is(625, 4, 5, 38).marks("100", 625).state(3, 0).state(4, 0);
    }

    private static void behindTheStore(Due due) {
        for (int operation : BY_BOTH) {
            Bench x = twoFields(due, "behind, " + operation).field(1399, 7);
            for (int nowhere : new int[] {1400, 1401, 2000, 15999}) {
                x.seven(2, operation, nowhere, 625).seven(2, operation, 605, nowhere);
                x.seven(2, operation, nowhere, nowhere);
            }
            areAsTheyWere(x);
            x.seven(0, operation, 1399, 625);
        }
        Bench x = twoFields(due, "behind, by B alone").field(1399, 7);
        x.four(2, Op.CLEAR, 1400).seven(2, Op.CLEAR, 605, 1400).is(1399, 7);
        x.eight(2, Op.BRANCH, 345, 1400, 0).eight(2, Op.TEST, 345, 1400, 2);
        x.four(2, Op.STORE_A, 1400).four(2, Op.STORE_B, 1400).four(2, Op.STORE_B, 1402).is(1399, 0, 7);
        x.four(0, Op.STORE_B, 1399).eight(0, Op.BRANCH, 345, 1399, 0).eight(0, Op.TEST, 345, 1399, 2);
    }

    private static void negative(Due due) {
        for (int operation : BY_BOTH) {
            Bench x = twoFields(due, "negative, " + operation).seven(0, Op.MARK, 0, 0).a(-1).b(-1);
            x.one(2, operation).i(701).a(-1).b(-1);
            areAsTheyWere(x);
        }
        Bench x = new Bench(due, "negative, by B alone").field(0, 7).registers(0, 0).one(0, Op.DIGIT);
        x.one(2, Op.CLEAR).a(-1).b(-1).is(0, 7).marks("1", 0);
        x.one(0, Op.BRANCH).i(-1);
        due.same("I is negative", 2, x.machine.run(1));
    }

    private static void noLeftEnd(Due due) {
        for (int operation : BY_FIELDS) {
            Bench x = twoFields(due, "no left end, " + operation).plain(1, 8, 9);
            x.seven(2, operation, 1, operation == Op.MOVE || operation == Op.COMPARE ? 1 : 625);
            x.seven(2, operation, 605, 1).is(1, 8, 9).marks("00", 1);
            areAsTheyWere(x);
        }
        Bench x = new Bench(due, "none in all the store").plain(1, 8, 9);
        x.seven(2, Op.MOVE, 0, 1).seven(2, Op.MOVE, 1, 0).seven(2, Op.COMPARE, 0, 1).seven(2, Op.COMPARE, 1, 0);
        x.is(1, 8, 9).state(3, 0);
    }

    private static void partlyThere(Due due) {
        Bench x = new Bench(due, "partly there").field(605, 1, 2, 3).plain(2, 7, 8, 9);
        x.seven(2, Op.LOAD, 605, 1).is(2, 7, 8, 9).marks("000", 2);
        x.seven(2, Op.SUPPRESS, 605, 1).is(2, 7, 8, 9);
        x.seven(2, Op.MOVE, 605, 1).is(2, 7, 8, 9);
        x.four(2, Op.STORE_A, 1).four(2, Op.STORE_B, 0).is(2, 7, 8, 9);
        x.seven(2, Op.MARK, 1, 1400).seven(2, Op.MARK, 1400, 1).marks("000", 2);
        x.seven(0, Op.SUPPRESS, 605, 2).is(2, 1, 2, 3).b(3);
        x.four(0, Op.STORE_B, 2).is(2, 10, 10, 3).a(-1);
        x.seven(0, Op.MOVE, 605, 2).is(2, 1, 2, 3).a(602).b(-1);
        x.seven(0, Op.LOAD, 605, 2).marks("100", 2).a(602).b(-1);
    }

    private static void nothingOfItsOwn(Due due) {
        Bench x = twoFields(due, "nothing").field(610, 9).field(611, 9).plain(1, 9, 9);
        x.seven(0, Op.COMPARE, 605, 625).state(3, 1).seven(0, Op.ADD, 610, 611).state(4, 1);
        x.seven(2, Op.COMPARE, 605, 1).state(3, 1).seven(2, Op.ADD, 605, 1).state(4, 1).is(1, 9, 9);
        x.eight(2, Op.BRANCH, 345, 1400, 0).i(708).eight(2, Op.TEST, 345, 1400, 1).i(708);
        x.seven(2, Op.CLEAR, 345, 1400).i(707).is(605, 1, 2, 19).marks("100", 605).marks("11", 611);
    }

    private static void registersOfAStop(Due due) {
        for (int operation : BY_BOTH) {
            boolean keeps = operation == Op.MOVE || operation == Op.LOAD || operation == Op.DIGIT
                || operation == Op.ZONE;
            Bench x = twoFields(due, "registers of a stop, " + operation);
            x.seven(2, operation, 1405, 625).i(707).a(1405).b(625);
            x.four(2, operation, 1406).i(704).a(1406).b(keeps ? 625 : 1406);
            x.one(2, operation).i(701).a(1406).b(keeps ? 625 : 1406);
        }
        Bench x = twoFields(due, "registers of a stop").registers(605, 625);
        x.four(2, Op.STORE_A, 1405).i(704).a(1405).b(625).four(2, Op.STORE_B, 1406).i(704).a(1406).b(625);
        x.eight(2, Op.BRANCH, 345, 1407, 0).i(708).a(345).b(1407);
        x.eight(2, Op.TEST, 346, 1408, 2).i(708).a(346).b(1408);
        x.seven(2, Op.CLEAR, 347, 1409).i(707).a(347).b(1409).four(2, Op.CLEAR, 1410).i(704).a(1410).b(1410);
    }

    private static void fields(Due due) {
        Bench x = new Bench(due, "fields", 400);
        x.field(0, 5).number(0, 5);
        x.plain(1, 6).number(1, 56);
        x.field(399, 7).number(399, 7);
        x.field(398, 8).number(398, 8).number(399, 7);
        x.plain(399, 7).number(399, 87);
        x.field(397, 1, 2).field(397, 3).number(397, 3).number(396, 1);
    }

    private static void equalAtFirst(Due due) {
        new Bench(due, "at first").state(3, 0).five(0, Op.BRANCH, 345, 18).i(345);
        new Bench(due, "at first").five(0, Op.BRANCH, 345, 17).i(705);
        new Bench(due, "at first").five(0, Op.BRANCH, 345, 19).i(705).five(0, Op.BRANCH, 345, 20).i(705);
    }

    private static void unequal(Due due) {
        for (int order = -1; order <= 1; order++) {
            Bench x = new Bench(due, "order " + order).field(605, 5).field(625, 5 + order);
            x.seven(0, Op.COMPARE, 605, 625).state(3, order);
            x.five(0, Op.BRANCH, 345, 17).i(order != 0 ? 345 : 705);
            x.five(0, Op.BRANCH, 345, 18).i(order == 0 ? 345 : 705);
            x.five(0, Op.BRANCH, 345, 19).i(order < 0 ? 345 : 705);
            x.five(0, Op.BRANCH, 345, 20).i(order > 0 ? 345 : 705);
        }
    }

    private static void offAtFirst(Due due) {
        Bench x = new Bench(due, "at first").state(4, 0).state(5, 0);
        x.five(0, Op.BRANCH, 345, 25).i(705).five(0, Op.BRANCH, 345, 49).i(705);
        x.one(4, Op.READ).state(5, 0);
        x.machine.card();
        x.state(5, 0);
    }
}
