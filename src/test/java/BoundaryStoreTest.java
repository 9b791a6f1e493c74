/** Every sentence of promises 1, 2, 3, 8, 9 and 13 that names a boundary, by a test of its own. */
public final class BoundaryStoreTest {
    private static final int LEAST = Integer.MIN_VALUE;
    private static final int MOST = Integer.MAX_VALUE;
    private static final long EIGHT = 0x0102030405060708L;
    private static final long ONE = 0x05FFFFFFFFFFFFFFL;
    private static final long NO_CHARACTER = -1L;

    public static void main(String[] args) {
        Sentences all = new Sentences();
        all.holds("An object is used for at most 512 calls", BoundaryStoreTest::callsUpToTheLast);
        all.holds("1: a store of so many positions (400 .. 2000)", BoundaryStoreTest::sizesTold);
        all.holds("1: else 1400", BoundaryStoreTest::sizesNotTaken);
        all.holds("1: I 0, A 0, B 0", BoundaryStoreTest::registersAtFirst);
        all.holds("2: a character at a position, with a word mark or not: true", BoundaryStoreTest::setAtTheEnds);
        all.holds("2: false if there is no such position", BoundaryStoreTest::setNoPosition);
        all.holds("2: false if there is no such character", BoundaryStoreTest::setNoCharacter);
        all.holds("3: the bytes of a long, the highest first", BoundaryStoreTest::putEight);
        all.holds("3: up to the first byte that is above 63 (255, say)", BoundaryStoreTest::putUpToAByteAbove);
        all.holds("3: word marks as the bits tell, the lowest for the first one", BoundaryStoreTest::putMarks);
        all.holds("3: IllegalArgumentException if there are no such positions", BoundaryStoreTest::putNoPositions);
        all.holds("3: .. for them: none are needed for no character", BoundaryStoreTest::putNoCharacter);
        all.holds("8: a character of the store", BoundaryStoreTest::atTheEnds);
        all.holds("8: IndexOutOfBoundsException if there is none such", BoundaryStoreTest::atNowhere);
        all.holds("9: whether there is a word mark", BoundaryStoreTest::markedAtTheEnds);
        all.holds("9: IndexOutOfBoundsException if there is no such position", BoundaryStoreTest::markedNowhere);
        all.holds("13: the number in a field by values, with its sign", BoundaryStoreTest::numbers);
        all.holds("13: IndexOutOfBoundsException: no units there", BoundaryStoreTest::numberWithoutUnits);
        all.holds("13: IndexOutOfBoundsException: no left end there", BoundaryStoreTest::numberWithoutEnd);
        all.holds("13: UnsupportedOperationException if more than 18", BoundaryStoreTest::numberTooLong);
        all.end();
    }

    private static void callsUpToTheLast(Due due) {
        CharMachine x = new CharMachine(400);
        x.put(0, 0x320A0A0AFFFFFFFFL, 1);
        x.set(4, 0, true);
        for (int call = 3; call <= 511; call++) {
            due.same("call " + call, 0, x.run(20000));
        }
        due.same("call 512", 509 * 20000, x.state(6));
    }

    private static void sizesTold(Due due) {
        for (int size : new int[] {400, 401, 1399, 1401, 1999, 2000}) {
            isOfSize(due, size, size);
        }
    }

    private static void sizesNotTaken(Due due) {
        for (int size : new int[] {399, 1, 0, -1, -400, LEAST, 2001, 4000, MOST}) {
            isOfSize(due, size, 1400);
        }
    }

    private static void isOfSize(Due due, int told, int size) {
        CharMachine x = new CharMachine(told);
        due.same("size " + told, size, x.state(8));
        due.yes("size " + told + ": the last position", x.set(size - 1, 1, true));
        due.no("size " + told + ": one more", x.set(size, 1, true));
    }

    private static void registersAtFirst(Due due) {
        for (int size : new int[] {400, 2000, -1}) {
            CharMachine x = new CharMachine(size);
            due.same("I", 0, x.state(0));
            due.same("A", 0, x.state(1));
            due.same("B", 0, x.state(2));
        }
    }

    private static void setAtTheEnds(Due due) {
        CharMachine x = new CharMachine(400);
        for (int at : new int[] {0, 399}) {
            for (int character : new int[] {63, 0}) {
                due.yes("set with a mark", x.set(at, character, true));
                due.same("its character", character, x.at(at));
                due.yes("its mark", x.isMarked(at));
                due.yes("set without a mark", x.set(at, 63 - character, false));
                due.same("its character", 63 - character, x.at(at));
                due.no("its mark", x.isMarked(at));
            }
        }
    }

    private static void setNoPosition(Due due) {
        CharMachine x = new CharMachine(400);
        for (int at : new int[] {-1, 400, -400, 1400, LEAST, MOST}) {
            due.no("set(" + at + ")", x.set(at, 5, true));
        }
        due.same("marks", 0, x.count(3));
        due.same("the first position", 0, x.at(0));
        due.same("the last position", 0, x.at(399));
    }

    private static void setNoCharacter(Due due) {
        CharMachine x = new CharMachine(400);
        x.set(7, 9, true);
        for (int character : new int[] {-1, 64, 73, 127, 128, 255, 256 + 5, LEAST, MOST}) {
            due.no("set of " + character, x.set(7, character, false));
        }
        due.same("the character stays", 9, x.at(7));
        due.yes("the mark stays", x.isMarked(7));
    }

    private static void putEight(Due due) {
        CharMachine x = new CharMachine(400);
        for (int at : new int[] {0, 392}) {
            due.same("put at " + at, 8, x.put(at, 0x3F00010A3F20103FL, 0));
            int[] characters = {63, 0, 1, 10, 63, 32, 16, 63};
            for (int k = 0; k < 8; k++) {
                due.same("at " + (at + k), characters[k], x.at(at + k));
            }
        }
        due.same("behind the eight", 0, x.at(8));
        due.same("ahead of the eight", 0, x.at(391));
    }

    private static void putUpToAByteAbove(Due due) {
        for (int above : new int[] {64, 65, 127, 128, 192, 255}) {
            for (int length = 0; length < 8; length++) {
                CharMachine x = new CharMachine(400);
                int shift = 56 - 8 * length;
                long bytes = EIGHT & ~(255L << shift) | (long) above << shift;
                due.same("put up to " + above, length, x.put(100, bytes, 255));
                for (int k = 0; k < 8; k++) {
                    due.same("put up to " + above + ", " + k, k < length ? k + 1 : 0, x.at(100 + k));
                }
                due.same("put up to " + above + ", marks", length, x.count(3));
            }
        }
        due.same("63 is not above 63", 8, new CharMachine(400).put(0, 0x3F3F3F3F3F3F3F3FL, 0));
    }

    private static void putMarks(Due due) {
        CharMachine x = new CharMachine(400);
        for (int bits : new int[] {0, 1, 128, 255, 0b01101001, 256, -1, -256, LEAST, MOST}) {
            x.put(100, EIGHT, bits);
            for (int k = 0; k < 8; k++) {
                due.same("bits " + bits + ", " + k, bits >> k & 1, x.isMarked(100 + k) ? 1 : 0);
            }
            due.no("bits " + bits + ", behind", x.isMarked(108));
        }
        x.set(102, 9, true);
        x.put(100, 0x0102FFFFFFFFFFFFL, 0);
        due.yes("behind what was put a mark stays", x.isMarked(102));
    }

    private static void putNoPositions(Due due) {
        CharMachine x = new CharMachine(400);
        for (int at : new int[] {-1, -8, 393, 399, 400, LEAST, MOST, MOST - 7}) {
            due.fails("eight at " + at, IllegalArgumentException.class, () -> x.put(at, EIGHT, 255));
        }
        for (int at : new int[] {-1, 400, LEAST, MOST}) {
            due.fails("one at " + at, IllegalArgumentException.class, () -> x.put(at, ONE, 255));
        }
        due.fails("three", IllegalArgumentException.class, () -> x.put(398, 0x010203FFFFFFFFFFL, 255));
        due.same("nothing has changed", 0, x.count(3) + x.at(0) + x.at(393) + x.at(398) + x.at(399));
        due.same("three at the end", 3, x.put(397, 0x010203FFFFFFFFFFL, 255));
        due.same("one at the end", 1, x.put(399, ONE, 255));
        due.same("eight at the end", 8, x.put(392, EIGHT, 255));
    }

    private static void putNoCharacter(Due due) {
        CharMachine x = new CharMachine(400);
        for (int at : new int[] {0, 399, 400, -1, LEAST, MOST}) {
            due.same("none at " + at, 0, x.put(at, NO_CHARACTER, 255));
        }
        due.same("marks", 0, x.count(3));
    }

    private static void atTheEnds(Due due) {
        CharMachine x = new CharMachine(400);
        x.set(0, 63, true);
        x.set(399, 62, true);
        due.same("at(0)", 63, x.at(0));
        due.same("at(399)", 62, x.at(399));
        due.same("at(1)", 0, x.at(1));
        due.same("at(398)", 0, x.at(398));
    }

    private static void atNowhere(Due due) {
        for (int size : new int[] {400, 2000}) {
            CharMachine x = new CharMachine(size);
            for (int position : new int[] {-1, size, size + 1, LEAST, MOST}) {
                due.fails("at(" + position + ")", IndexOutOfBoundsException.class, () -> x.at(position));
            }
        }
    }

    private static void markedAtTheEnds(Due due) {
        CharMachine x = new CharMachine(400);
        x.set(0, 0, true);
        x.set(399, 63, true);
        x.set(398, 63, false);
        due.yes("isMarked(0)", x.isMarked(0));
        due.yes("isMarked(399)", x.isMarked(399));
        due.no("isMarked(1)", x.isMarked(1));
        due.no("isMarked(398)", x.isMarked(398));
    }

    private static void markedNowhere(Due due) {
        for (int size : new int[] {400, 2000}) {
            CharMachine x = new CharMachine(size);
            for (int position : new int[] {-1, size, size + 1, LEAST, MOST}) {
                due.fails("isMarked(" + position + ")", IndexOutOfBoundsException.class,
                    () -> x.isMarked(position));
            }
        }
    }

    private static void numbers(Due due) {
        Bench x = new Bench(due, "number", 400);
        x.field(0, 7).number(0, 7);
        x.field(399, 7).number(399, 7);
        x.field(399, 32 + 7).number(399, -7);
        x.field(399, 48 + 7).number(399, 7);
        x.field(399, 16 + 7).number(399, 7);
        x.field(399, 32 + 10).number(399, 0);
        x.field(399, 0).number(399, 0);
        x.field(20, 32, 48 + 15, 16 + 10, 11).number(20, 501);
        x.digits(40, "999999999999999999", 0).number(40, 999999999999999999L);
        x.digits(40, "999999999999999999", 32).number(40, -999999999999999999L);
        x.digits(40, "100000000000000000", 32).number(40, -100000000000000000L);
    }

    private static void numberWithoutUnits(Due due) {
        CharMachine x = new CharMachine(400);
        x.set(399, 5, true);
        x.set(0, 5, true);
        for (int units : new int[] {-1, 400, LEAST, MOST}) {
            due.fails("number(" + units + ")", IndexOutOfBoundsException.class, () -> x.number(units));
        }
    }

    private static void numberWithoutEnd(Due due) {
        CharMachine x = new CharMachine(400);
        for (int units : new int[] {0, 16, 17, 18, 399}) {
            due.fails("number(" + units + ")", IndexOutOfBoundsException.class, () -> x.number(units));
        }
        x.set(10, 5, true);
        due.fails("left of the mark", IndexOutOfBoundsException.class, () -> x.number(9));
        due.same("at the mark", 5, x.number(10));
    }

    private static void numberTooLong(Due due) {
        CharMachine x = new CharMachine(400);
        x.set(0, 1, true);
        due.same("of 18", 100000000000000000L, x.number(17));
        for (int units : new int[] {18, 19, 398, 399}) {
            due.fails("of " + (units + 1), UnsupportedOperationException.class, () -> x.number(units));
        }
    }
}
