/** Every sentence about A, S, ?, ! and C that names a boundary, by a test of its own. */
public final class BoundaryFieldTest {
    private static final int NO_ZONE = 0;
    private static final int A = 16;
    private static final int B = 32;
    private static final int BA = 48;
    private static final int[] ZONES = {NO_ZONE, A, B, BA};
    private static final int[] ALL_FOUR = {Op.ADD, Op.SUBTRACT, Op.ZERO_ADD, Op.ZERO_SUBTRACT};

    public static void main(String[] args) {
        Sentences all = new Sentences();
        sums(all);
        signs(all);
        zerosAndSums(all);
        comparisons(all);
        all.end();
    }

    private static void sums(Sentences all) {
        all.holds("The field at B becomes its sum, or the difference", BoundaryFieldTest::sumOrDifference);
        all.holds("decimal fields of any length", BoundaryFieldTest::anyLength);
        all.holds("Both are read by values", BoundaryFieldTest::readByValues);
        all.holds("a field at A that is shorter has zeros ahead", BoundaryFieldTest::shorter);
        all.holds("what of a longer one is beyond is not looked at", BoundaryFieldTest::longer);
        all.holds(".. not even if the field at A has no left end", BoundaryFieldTest::longerWithoutEnd);
        all.holds("(All that is read is read ahead of changes.)", BoundaryFieldTest::readAhead);
        all.holds("what is more than the field at B can have is lost", BoundaryFieldTest::lost);
        all.holds("and OVERFLOW is on", BoundaryFieldTest::overflow);
        all.holds("All other positions of the field at B lose their zones", BoundaryFieldTest::otherZones);
        all.holds("word marks stay", BoundaryFieldTest::marksStay);
        all.holds("A is one left of the part that was looked at", BoundaryFieldTest::placeOfA);
        all.holds("B one left of its field", BoundaryFieldTest::placeOfB);
    }

    private static void signs(Sentences all) {
        all.holds("MINUS if the zone of its units is B alone, else plus", BoundaryFieldTest::minus);
        all.holds("S turns the sign of A", BoundaryFieldTest::turnedSign);
        all.holds("Signs alike: the zone of the units of B stays", BoundaryFieldTest::unitsZoneStays);
        all.holds("the lesser is taken from the greater", BoundaryFieldTest::lesserFromGreater);
        all.holds("the sign is that of the greater", BoundaryFieldTest::signOfTheGreater);
        all.holds("of B if they are the same", BoundaryFieldTest::signOfTheSame);
        all.holds("the zone becomes B for minus, B and A for plus", BoundaryFieldTest::unitsZoneBecomes);
    }

    private static void zerosAndSums(Sentences all) {
        all.holds("?, !: the values of the field at A: shorter", BoundaryFieldTest::zeroAddShorter);
        all.holds("?, !: the values of the field at A: longer", BoundaryFieldTest::zeroAddLonger);
        all.holds("?, !: with its sign, or for ! the other one", BoundaryFieldTest::zeroAddSigns);
        all.holds("?, !: all read ahead of changes", BoundaryFieldTest::zeroAddReadAhead);
        all.holds("?, !: A and B behind it as above", BoundaryFieldTest::zeroAddPlaces);
        all.holds("?, !: units' zone B for minus, B and A for plus; the others none", BoundaryFieldTest::zeroAddZones);
    }

    private static void comparisons(Sentences all) {
        all.holds("C: up to the first place where a or b has a word mark", BoundaryFieldTest::compareUpTo);
        all.holds("C: If it is not b that has it: HIGH", BoundaryFieldTest::compareShorterA);
        all.holds("C: Else EQUAL if all are alike", BoundaryFieldTest::compareAlike);
        all.holds("C: HIGH if B's is higher in the leftmost place, else LOW", BoundaryFieldTest::compareLeftmost);
        all.holds("C: special ones (digit bits 0, or more than 10) are below", BoundaryFieldTest::specials);
        all.holds("C: of either kind by zones: BA, B, A, none", BoundaryFieldTest::orderOfZones);
        all.holds("C: of one zone by digit bits, but 10 below 1 to 9", BoundaryFieldTest::orderOfDigits);
    }

    private static Bench fields(Due due, String name, String a, int zoneA, String b, int zoneB) {
        return new Bench(due, name).digits(605, a, zoneA).digits(625, b, zoneB);
    }

    private static void sumOrDifference(Due due) {
        fields(due, "0 + 0", "0", 0, "0", 0).seven(0, Op.ADD, 605, 625).number(625, 0).is(625, 10);
        fields(due, "9 + 0", "9", 0, "0", 0).seven(0, Op.ADD, 605, 625).number(625, 9);
        fields(due, "0 - 9", "9", 0, "0", 0).seven(0, Op.SUBTRACT, 605, 625).number(625, -9);
        fields(due, "-9 - -9", "9", B, "9", B).seven(0, Op.SUBTRACT, 605, 625).number(625, 0);
        fields(due, "-9 + 9", "9", 0, "9", B).seven(0, Op.ADD, 605, 625).number(625, 0);
        fields(due, "A stays", "123", B, "456", 0).seven(0, Op.ADD, 605, 625).number(605, -123).number(625, 333);
        new Bench(due, "with itself").digits(605, "04", B).four(0, Op.ADD, 605).number(605, -8);
        new Bench(due, "from itself").digits(605, "04", B).four(0, Op.SUBTRACT, 605).number(605, 0);
    }

    /** The two fields have all of the store but the instruction. */
    private static void anyLength(Due due) {
        Bench x = new Bench(due, "long", 2000);
        for (int from = 710; from < 1990; from += 8) {
            x.machine.put(from, 0x0909090909090909L, from == 710 || from == 1350 ? 1 : 0);
        }
        x.seven(0, Op.ADD, 1349, 1989).a(709).b(1349).state(4, 1);
        x.is(1989, 9, 9, 8).is(1352, 9, 9, 9).is(1349, 9);
        x.seven(0, Op.SUBTRACT, 1349, 1989).is(1989, 10, 10, B + 1).is(1352, 10, 10, 10);
        int[] p = Bench.address(1990);
        Bench y = new Bench(due, "all ahead of it", 2000).field(0, 10);
        y.instruction(1991, Op.ADD, p[0], p[1], p[2]).plain(1990, 15);
        due.same("all ahead of it", 0, y.machine.run(1));
        y.a(-1).b(-1).is(1990, 10, 1, 10).is(0, 10);
    }

    private static void readByValues(Due due) {
        for (int bits = 0; bits < 16; bits++) {
            new Bench(due, "A of " + bits).field(605, bits).field(625, 10, 10).seven(0, Op.ADD, 605, 625)
                .number(625, bits % 10);
            new Bench(due, "B of " + bits).field(605, 1).field(625, bits, 10).seven(0, Op.ADD, 605, 625)
                .is(625, Bench.digit(bits % 10), 1);
            new Bench(due, "S of " + bits).field(605, bits).field(625, bits).seven(0, Op.SUBTRACT, 605, 625)
                .is(625, BA + 10);
        }
    }

    private static void shorter(Due due) {
        fields(due, "one by four", "7", 0, "9995", 0).seven(0, Op.ADD, 605, 625).is(625, 10, 10, 10, 2);
        fields(due, "one by two", "1", 0, "10", 0).seven(0, Op.SUBTRACT, 605, 625).is(625, 10, BA + 9);
        // Ahead of A's mark there are digits that are not of its field.
        Bench x = fields(due, "what is ahead of it", "7", 0, "0001", 0).plain(604, 9, 9, 9);
        x.seven(0, Op.ADD, 605, 625).is(625, 10, 10, 10, 8).a(604);
        Bench y = new Bench(due, "at the start").field(0, 7).digits(625, "0001", 0);
        y.seven(0, Op.ADD, 0, 625).is(625, 10, 10, 10, 8).a(-1).b(621);
    }

    private static void longer(Due due) {
        fields(due, "alike", "9991", 0, "1", 0).seven(0, Op.ADD, 605, 625).is(625, 2).state(4, 0).a(604).b(624);
        fields(due, "by one", "910", 0, "10", 0).seven(0, Op.ADD, 605, 625).is(625, 2, 10).state(4, 0).a(603);
        // What is beyond makes A no greater.
        fields(due, "not alike", "9991", B, "2", 0).seven(0, Op.ADD, 605, 625).is(625, BA + 1).a(604);
        fields(due, "the same", "9992", B, "2", 0).seven(0, Op.ADD, 605, 625).is(625, BA + 10);
    }

    private static void longerWithoutEnd(Due due) {
        for (int operation : ALL_FOUR) {
            Bench x = new Bench(due, "no left end " + operation).plain(1, 1, 2).digits(625, "10", 0);
            x.seven(0, operation, 1, 625).a(-1).b(623);
            x.digits(625, "010", 0).seven(2, operation, 1, 625).a(1).b(625).is(625, 10, 1, 10);
            x.digits(625, "3", 0).seven(0, operation, 0, 625).a(-1).b(624);
        }
    }

    private static void readAhead(Due due) {
        new Bench(due, "A one right of B").digits(605, "1289", 0).seven(0, Op.ADD, 605, 604).is(605, 4, 1, 7, 9);
        new Bench(due, "A one left of B").digits(605, "1289", 0).seven(0, Op.ADD, 604, 605).is(605, 1, 4, 1, 7);
        new Bench(due, "S, A one left of B").digits(605, "1289", 0).seven(0, Op.SUBTRACT, 604, 605)
            .is(605, 1, 1, 6, BA + 1);
        new Bench(due, "S, A one right of B").digits(605, "9128", 0).seven(0, Op.SUBTRACT, 605, 604)
            .is(605, 7, 8, BA + 4, 8);
        new Bench(due, "the sign, too").field(605, 1, 2, B + 8, 9).seven(0, Op.ADD, 604, 605).is(605, 1, 1, 6, BA + 1);
    }

    private static void lost(Due due) {
        fields(due, "by one", "1", 0, "9", 0).seven(0, Op.ADD, 605, 625).is(625, 0, 10).marks("01", 625);
        fields(due, "the most", "999", 0, "999", 0).seven(0, Op.ADD, 605, 625).is(625, 0, 9, 9, 8);
        fields(due, "by one, minus", "1", B, "999", B).seven(0, Op.ADD, 605, 625).is(625, 0, 10, 10, B + 10);
        fields(due, "S", "999", B, "999", 0).seven(0, Op.SUBTRACT, 605, 625).is(625, 0, 9, 9, 8);
    }

    private static void overflow(Due due) {
        fields(due, "just not", "1", 0, "998", 0).seven(0, Op.ADD, 605, 625).state(4, 0);
        Bench x = fields(due, "just", "1", 0, "999", 0).seven(0, Op.ADD, 605, 625).state(4, 1);
        x.seven(0, Op.ADD, 605, 625).is(625, 10, 10, 1).state(4, 1);
        fields(due, "minus", "1", B, "9", B).seven(0, Op.ADD, 605, 625).state(4, 1);
        fields(due, "S", "1", B, "9", 0).seven(0, Op.SUBTRACT, 605, 625).state(4, 1);
        fields(due, "a difference", "9", B, "0", 0).seven(0, Op.ADD, 605, 625).state(4, 0);
        fields(due, "what is beyond", "90", 0, "9", 0).seven(0, Op.ADD, 605, 625).state(4, 0);
        fields(due, "?", "90", 0, "9", 0).seven(0, Op.ZERO_ADD, 605, 625).state(4, 0);
    }

    private static void otherZones(Due due) {
        Bench x = new Bench(due, "alike").field(605, 10).field(625, 63, B + 2, A + 3, A + 4);
        x.seven(0, Op.ADD, 605, 625).is(625, 5, 2, 3, A + 4);
        Bench y = new Bench(due, "not alike").field(605, 10).field(625, 63, B + 2, A + 3, B + 4);
        y.seven(0, Op.ADD, 605, 625).is(625, 5, 2, 3, B + 4);
        Bench z = new Bench(due, "A's do not matter").field(605, B + 1, BA + 1, 1).field(625, 1, 1, 1);
        z.seven(0, Op.ADD, 605, 625).is(625, 2, 2, 2).is(605, B + 1, BA + 1, 1);
    }

    private static void marksStay(Due due) {
        for (int operation : ALL_FOUR) {
            fields(due, "marks " + operation, "9", 0, "999", 0).seven(0, operation, 605, 625)
                .marks("0100", 625).marks("01", 605);
            fields(due, "marks " + operation, "999", 0, "9", 0).seven(0, operation, 605, 625)
                .marks("001", 625).marks("0100", 605);
        }
    }

    private static void placeOfA(Due due) {
        fields(due, "shorter", "1", 0, "111", 0).seven(0, Op.ADD, 605, 625).a(604);
        fields(due, "the same", "111", 0, "111", 0).seven(0, Op.ADD, 605, 625).a(602);
        fields(due, "longer", "1111", 0, "11", 0).seven(0, Op.ADD, 605, 625).a(603);
        new Bench(due, "at the start").field(0, 1).field(625, 1, 1).seven(0, Op.SUBTRACT, 0, 625).a(-1);
    }

    private static void placeOfB(Due due) {
        fields(due, "one", "111", 0, "1", 0).seven(0, Op.ADD, 605, 625).b(624);
        fields(due, "three", "1", 0, "111", 0).seven(0, Op.SUBTRACT, 605, 625).b(622);
        new Bench(due, "at the start").field(605, 1).field(1, 1, 1).seven(0, Op.ADD, 605, 1).b(-1);
        new Bench(due, "at the end").field(605, 1).field(1399, 1).seven(0, Op.ADD, 605, 1399).b(1398);
    }

    private static void minus(Due due) {
        for (int zone : ZONES) {
            fields(due, "A's zone " + zone, "3", zone, "5", 0).seven(0, Op.ADD, 605, 625)
                .number(625, zone == B ? 2 : 8);
            fields(due, "B's zone " + zone, "3", 0, "5", zone).seven(0, Op.ADD, 605, 625)
                .number(625, zone == B ? -2 : 8);
        }
        // The zones of other positions make no sign.
        new Bench(due, "the tens' zone").field(605, B + 1, 3).field(625, B + 1, 5).seven(0, Op.ADD, 605, 625)
            .number(625, 28);
    }

    private static void turnedSign(Due due) {
        for (int zone : ZONES) {
            fields(due, "S of zone " + zone, "3", zone, "5", 0).seven(0, Op.SUBTRACT, 605, 625)
                .number(625, zone == B ? 8 : 2).is(605, zone + 3);
            fields(due, "S of zone " + zone, "3", zone, "5", B).seven(0, Op.SUBTRACT, 605, 625)
                .number(625, zone == B ? -2 : -8);
        }
        fields(due, "S of 0", "0", 0, "0", B).seven(0, Op.SUBTRACT, 605, 625).is(625, B + 10);
    }

    private static void unitsZoneStays(Due due) {
        for (int zone : ZONES) {
            int like = zone == B ? B : NO_ZONE;
            fields(due, "zone " + zone, "1", like, "15", zone).seven(0, Op.ADD, 605, 625).is(625, 1, zone + 6);
            fields(due, "zone of one " + zone, "5", like, "5", zone).seven(0, Op.ADD, 605, 625).is(625, zone + 10);
            fields(due, "S, zone " + zone, "1", B - like, "15", zone).seven(0, Op.SUBTRACT, 605, 625)
                .is(625, 1, zone + 6);
        }
    }

    private static void lesserFromGreater(Due due) {
        fields(due, "B is greater by one", "122", B, "123", 0).seven(0, Op.ADD, 605, 625).is(625, 10, 10, BA + 1);
        fields(due, "A is greater by one", "123", B, "122", 0).seven(0, Op.ADD, 605, 625).is(625, 10, 10, B + 1);
        fields(due, "left of the field", "99", B, "01", 0).seven(0, Op.ADD, 605, 625).is(625, 0, 9, B + 8);
        new Bench(due, "at the start").field(605, 1).field(1, 1, 1).seven(0, Op.SUBTRACT, 605, 1).is(1, 1, BA + 10);
        fields(due, "borrows", "1", B, "100", 0).seven(0, Op.ADD, 605, 625).is(625, 10, 9, BA + 9);
        fields(due, "borrows", "100", B, "001", 0).seven(0, Op.ADD, 605, 625).is(625, 10, 9, B + 9);
        fields(due, "the leftmost decides", "19", B, "21", 0).seven(0, Op.ADD, 605, 625).is(625, 10, BA + 2);
        fields(due, "the units decide", "119", B, "118", 0).seven(0, Op.ADD, 605, 625).is(625, 10, 10, B + 1);
    }

    private static void signOfTheGreater(Due due) {
        fields(due, "plus B", "4", B, "5", 0).seven(0, Op.ADD, 605, 625).number(625, 1);
        fields(due, "minus B", "4", 0, "5", B).seven(0, Op.ADD, 605, 625).number(625, -1);
        fields(due, "plus A", "5", 0, "4", B).seven(0, Op.ADD, 605, 625).number(625, 1);
        fields(due, "minus A", "5", B, "4", 0).seven(0, Op.ADD, 605, 625).number(625, -1);
        fields(due, "S, minus A", "5", 0, "4", 0).seven(0, Op.SUBTRACT, 605, 625).number(625, -1);
        fields(due, "S, plus A", "5", B, "4", B).seven(0, Op.SUBTRACT, 605, 625).number(625, 1);
    }

    private static void signOfTheSame(Due due) {
        fields(due, "plus", "55", B, "55", 0).seven(0, Op.ADD, 605, 625).is(625, 10, BA + 10);
        fields(due, "minus", "55", 0, "55", B).seven(0, Op.ADD, 605, 625).is(625, 10, B + 10);
        fields(due, "S, plus", "55", A, "55", BA).seven(0, Op.SUBTRACT, 605, 625).is(625, 10, BA + 10);
        fields(due, "S, minus", "55", B, "55", B).seven(0, Op.SUBTRACT, 605, 625).is(625, 10, B + 10);
        fields(due, "0 and -0", "0", 0, "0", B).seven(0, Op.ADD, 605, 625).is(625, B + 10);
        fields(due, "-0 and 0", "0", B, "0", A).seven(0, Op.ADD, 605, 625).is(625, BA + 10);
    }

    private static void unitsZoneBecomes(Due due) {
        for (int zone : ZONES) {
            int unlike = zone == B ? NO_ZONE : B;
            fields(due, "B greater, " + zone, "1", unlike, "5", zone).seven(0, Op.ADD, 605, 625)
                .is(625, (zone == B ? B : BA) + 4);
            fields(due, "A greater, " + zone, "9", unlike, "5", zone).seven(0, Op.ADD, 605, 625)
                .is(625, (zone == B ? BA : B) + 4);
        }
    }

    private static void zeroAddShorter(Due due) {
        Bench x = fields(due, "?", "7", 0, "9999", B).plain(604, 8).seven(0, Op.ZERO_ADD, 605, 625);
        x.is(625, 10, 10, 10, BA + 7);
        fields(due, "!", "7", 0, "99", 0).seven(0, Op.ZERO_SUBTRACT, 605, 625).is(625, 10, B + 7);
    }

    private static void zeroAddLonger(Due due) {
        fields(due, "?", "1234", 0, "99", B).seven(0, Op.ZERO_ADD, 605, 625).is(625, 0, 3, BA + 4).state(4, 0);
        fields(due, "!", "1234", 0, "9", B).seven(0, Op.ZERO_SUBTRACT, 605, 625).is(625, 0, B + 4).state(4, 0);
    }

    private static void zeroAddSigns(Due due) {
        for (int zone : ZONES) {
            fields(due, "? " + zone, "3", zone, "5", B).seven(0, Op.ZERO_ADD, 605, 625)
                .is(625, (zone == B ? B : BA) + 3).is(605, zone + 3);
            fields(due, "! " + zone, "3", zone, "5", B).seven(0, Op.ZERO_SUBTRACT, 605, 625)
                .is(625, (zone == B ? BA : B) + 3).is(605, zone + 3);
            fields(due, "! of 0, " + zone, "0", zone, "5", 0).seven(0, Op.ZERO_SUBTRACT, 605, 625)
                .is(625, (zone == B ? BA : B) + 10);
        }
    }

    private static void zeroAddReadAhead(Due due) {
        new Bench(due, "? right of B").digits(605, "1289", B).seven(0, Op.ZERO_ADD, 605, 604)
            .is(605, 2, 8, B + 9, B + 9);
        new Bench(due, "? left of B").digits(605, "1289", B).seven(0, Op.ZERO_ADD, 604, 605)
            .is(605, 10, 1, 2, BA + 8);
        new Bench(due, "! left of B").field(605, 1, 2, B + 8, 9).seven(0, Op.ZERO_SUBTRACT, 604, 605)
            .is(605, 10, 1, 2, BA + 8);
        new Bench(due, "? of itself").field(605, 63, B + 2, 0).four(0, Op.ZERO_ADD, 605).is(605, 5, 2, BA + 10);
        new Bench(due, "! of itself").digits(605, "12", B).four(0, Op.ZERO_SUBTRACT, 605).is(605, 1, BA + 2);
    }

    private static void zeroAddPlaces(Due due) {
        for (int operation : new int[] {Op.ZERO_ADD, Op.ZERO_SUBTRACT}) {
            fields(due, "shorter", "1", 0, "111", 0).seven(0, operation, 605, 625).a(604).b(622);
            fields(due, "longer", "1111", 0, "11", 0).seven(0, operation, 605, 625).a(603).b(623);
            new Bench(due, "at the start").field(0, 1).seven(0, operation, 0, 0).a(-1).b(-1);
        }
    }

    private static void zeroAddZones(Due due) {
        Bench x = new Bench(due, "?").field(605, 63, B + 2, A + 3).field(625, 63, 63, 63);
        x.seven(0, Op.ZERO_ADD, 605, 625).is(625, 5, 2, BA + 3);
        x.seven(0, Op.ZERO_SUBTRACT, 605, 625).is(625, 5, 2, B + 3);
        Bench y = new Bench(due, "? of a minus").field(605, 63, 63, B).field(625, 63, 63, 63);
        y.seven(0, Op.ZERO_ADD, 605, 625).is(625, 5, 5, B + 10);
        y.seven(0, Op.ZERO_SUBTRACT, 605, 625).is(625, 5, 5, BA + 10);
    }

    private static void compareUpTo(Due due) {
        Bench x = new Bench(due, "both of one").field(605, 9, 5).field(605, 5).field(625, 1, 5).field(625, 5);
        x.seven(0, Op.COMPARE, 605, 625).state(3, 0).a(604).b(624);
        Bench y = new Bench(due, "the marked place counts").field(605, 1, 5).field(625, 2, 5);
        y.seven(0, Op.COMPARE, 605, 625).state(3, 1).a(603).b(623);
        Bench z = new Bench(due, "b's mark first").field(605, 9, 1, 5).field(625, 1, 5);
        z.seven(0, Op.COMPARE, 605, 625).state(3, 0).a(603).b(623);
        Bench v = new Bench(due, "right of the units").field(605, 5).plain(606, 1).field(625, 5).plain(626, 2);
        v.seven(0, Op.COMPARE, 605, 625).state(3, 0);
        Bench w = new Bench(due, "at the start").field(0, 5).field(625, 5);
        w.seven(0, Op.COMPARE, 0, 625).state(3, 0).a(-1).b(624).seven(0, Op.COMPARE, 625, 0).state(3, 0).b(-1);
    }

    private static void compareShorterA(Due due) {
        new Bench(due, "alike so far").field(605, 5).field(625, 1, 5).seven(0, Op.COMPARE, 605, 625)
            .state(3, 1).a(604).b(624);
        new Bench(due, "lower so far").field(605, 5).field(625, 1, 4).seven(0, Op.COMPARE, 605, 625).state(3, 1);
        new Bench(due, "B has no mark").field(605, 5).plain(0, 4).seven(0, Op.COMPARE, 605, 0).state(3, 1).b(-1);
        new Bench(due, "both have it").field(605, 5).field(625, 4).seven(0, Op.COMPARE, 605, 625).state(3, -1);
    }

    private static void compareAlike(Due due) {
        new Bench(due, "of one").field(605, 63).field(625, 63).seven(0, Op.COMPARE, 605, 625).state(3, 0);
        new Bench(due, "with itself").field(605, 1, 2).four(0, Op.COMPARE, 605).state(3, 0).a(603).b(603);
        // 0 and 10 have one value, but are not alike; so of zones.
        new Bench(due, "blank and 0").field(605, 0).field(625, 10).seven(0, Op.COMPARE, 605, 625).state(3, 1);
        new Bench(due, "11 and 1").field(605, 11).field(625, 1).seven(0, Op.COMPARE, 605, 625).state(3, 1);
        new Bench(due, "zones").field(605, 5).field(625, BA + 5).seven(0, Op.COMPARE, 605, 625).state(3, -1);
        Bench x = new Bench(due, "EQUAL again").field(605, 5).field(625, 6).seven(0, Op.COMPARE, 605, 625);
        x.state(3, 1).seven(0, Op.COMPARE, 605, 605).state(3, 0);
    }

    private static void compareLeftmost(Due due) {
        Bench x = new Bench(due, "leftmost").field(605, 1, 9, 9).field(625, 2, 1, 1);
        x.seven(0, Op.COMPARE, 605, 625).state(3, 1).seven(0, Op.COMPARE, 625, 605).state(3, -1);
        Bench y = new Bench(due, "the units alone").field(605, 1, 1, 1).field(625, 1, 1, 2);
        y.seven(0, Op.COMPARE, 605, 625).state(3, 1).seven(0, Op.COMPARE, 625, 605).state(3, -1);
    }

    private static void isHigher(Due due, int lower, int higher) {
        Bench x = new Bench(due, lower + " below " + higher).field(605, lower).field(625, higher);
        x.seven(0, Op.COMPARE, 605, 625).state(3, 1).seven(0, Op.COMPARE, 625, 605).state(3, -1);
    }

    private static void specials(Due due) {
        for (int special : new int[] {0, 11, 15, A, A + 11, A + 15, B, B + 11, B + 15, BA, BA + 11, BA + 15}) {
            for (int zone : ZONES) {
                isHigher(due, special, zone + 10);
                isHigher(due, special, zone + 1);
                isHigher(due, special, zone + 9);
            }
        }
    }

    private static void orderOfZones(Due due) {
        int[] order = {BA, B, A, NO_ZONE};
        for (int k = 0; k < 3; k++) {
            isHigher(due, order[k], order[k + 1]);
            isHigher(due, order[k] + 15, order[k + 1]);
            isHigher(due, order[k] + 15, order[k + 1] + 11);
            isHigher(due, order[k] + 9, order[k + 1] + 10);
            isHigher(due, order[k] + 9, order[k + 1] + 1);
        }
        isHigher(due, BA + 15, 0);
        isHigher(due, BA + 9, 10);
    }

    private static void orderOfDigits(Due due) {
        int[] specials = {0, 11, 12, 13, 14, 15};
        int[] others = {10, 1, 2, 3, 4, 5, 6, 7, 8, 9};
        for (int zone : ZONES) {
            for (int k = 1; k < specials.length; k++) {
                isHigher(due, zone + specials[k - 1], zone + specials[k]);
            }
            for (int k = 1; k < others.length; k++) {
                isHigher(due, zone + others[k - 1], zone + others[k]);
            }
            isHigher(due, zone + 10, zone + 9);
            isHigher(due, zone, zone + 15);
        }
    }
}
