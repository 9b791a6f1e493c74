/** Every sentence of promises 4, 5, 11, 12 and 14 that names a boundary, by a test of its own. */
public final class BoundaryCardTest {
    private static final int LEAST = Integer.MIN_VALUE;
    private static final int MOST = Integer.MAX_VALUE;
    private static final long EIGHT = 0x0102030405060708L;

    public static void main(String[] args) {
        Sentences all = new Sentences();
        all.holds("4: a column (1 .. 80) gets a character: true", BoundaryCardTest::columnsAtTheEnds);
        all.holds("4: false if there is no such column", BoundaryCardTest::noSuchColumn);
        all.holds("4: false if there is no such character", BoundaryCardTest::noSuchColumnCharacter);
        all.holds("5: the card goes behind the others to be read", BoundaryCardTest::cardsInOrder);
        all.holds("5: a blank one is made up then", BoundaryCardTest::blankCardNext);
        all.holds("5: how many are to be read", BoundaryCardTest::howManyToBeRead);
        all.holds("5: IllegalStateException if there were 20 so far in all", BoundaryCardTest::twentyCards);
        all.holds("11: position k (1 .. 132) of a printed line", BoundaryCardTest::printedAtTheEnds);
        all.holds("11: IndexOutOfBoundsException: no such line", BoundaryCardTest::noSuchLine);
        all.holds("11: IndexOutOfBoundsException: no such k", BoundaryCardTest::noSuchPlaceInALine);
        all.holds("12: column k (1 .. 80) of a punched card", BoundaryCardTest::punchedAtTheEnds);
        all.holds("12: IndexOutOfBoundsException: no such card", BoundaryCardTest::noSuchPunchedCard);
        all.holds("12: IndexOutOfBoundsException: no such k", BoundaryCardTest::noSuchPunchedColumn);
        all.holds("14: 0: cards to be read", BoundaryCardTest::countOfCards);
        all.holds("14: 1: lines", BoundaryCardTest::countOfLines);
        all.holds("14: 2: punched cards", BoundaryCardTest::countOfPunchedCards);
        all.holds("14: 3: word marks in the store", BoundaryCardTest::countOfMarks);
        all.holds("14: NONE for another what", BoundaryCardTest::noSuchCount);
        all.end();
    }

    private static void columnsAtTheEnds(Due due) {
        CharMachine x = OneStep.machine(Op.READ);
        due.yes("column 1", x.column(1, 63));
        due.yes("column 80", x.column(80, 0));
        due.yes("column 80 again", x.column(80, 33));
        due.yes("column 2", x.column(2, 0));
        x.card();
        due.same("read", 0, OneStep.go(x));
        due.same("column 1 is read", 63, x.at(1));
        due.same("column 2 is read", 0, x.at(2));
        due.same("column 80 is read", 33, x.at(80));
    }

    private static void noSuchColumn(Due due) {
        CharMachine x = OneStep.machine(Op.READ);
        for (int column : new int[] {0, 81, -1, 82, LEAST, MOST}) {
            due.no("column " + column, x.column(column, 5));
        }
        x.card();
        OneStep.go(x);
        for (int position : new int[] {0, 1, 2, 79, 80, 81}) {
            due.same("nothing at " + position, 0, x.at(position));
        }
    }

    private static void noSuchColumnCharacter(Due due) {
        CharMachine x = OneStep.machine(Op.READ);
        x.column(1, 9);
        for (int character : new int[] {-1, 64, 128, 255, LEAST, MOST}) {
            due.no("column of " + character, x.column(1, character));
        }
        x.card();
        OneStep.go(x);
        due.same("the column stays", 9, x.at(1));
    }

    private static void cardsInOrder(Due due) {
        CharMachine x = OneStep.machine(Op.READ);
        for (int n = 1; n <= 20; n++) {
            x.column(80, n);
            x.card();
        }
        for (int n = 1; n <= 20; n++) {
            OneStep.go(x);
            due.same("card " + n, n, x.at(80));
        }
    }

    private static void blankCardNext(Due due) {
        CharMachine x = OneStep.machine(Op.READ);
        for (int column = 1; column <= 80; column++) {
            x.column(column, 63);
        }
        x.card();
        x.card();
        OneStep.go(x);
        due.same("the first card", 63, x.at(1));
        OneStep.go(x);
        for (int column = 1; column <= 80; column++) {
            due.same("the card behind it, column " + column, 0, x.at(column));
        }
    }

    private static void howManyToBeRead(Due due) {
        CharMachine x = OneStep.machine(Op.READ);
        due.same("the first", 1, x.card());
        due.same("the second", 2, x.card());
        OneStep.go(x);
        due.same("one was read", 2, x.card());
        OneStep.go(x);
        OneStep.go(x);
        due.same("all were read", 1, x.card());
    }

    private static void twentyCards(Due due) {
        CharMachine x = OneStep.machine(Op.READ);
        for (int n = 1; n <= 20; n++) {
            x.column(1, n);
            due.same("card " + n, n, x.card());
        }
        x.column(1, 63);
        due.fails("card 21", IllegalStateException.class, x::card);
        due.same("20 to be read", 20, x.count(0));
        for (int n = 1; n <= 20; n++) {
            due.same("read " + n, 0, OneStep.go(x));
            due.same("card " + n + " is as it was", n, x.at(1));
        }
        due.fails("card 21, all were read", IllegalStateException.class, x::card);
        due.same("none to be read", 0, x.count(0));
        due.same("the refused one is not read", 4, OneStep.go(x));
    }

    private static void printedAtTheEnds(Due due) {
        CharMachine x = OneStep.machine(Op.PRINT);
        x.set(200, 11, true);
        x.set(201, 63, true);
        x.set(332, 62, true);
        x.set(333, 12, true);
        OneStep.go(x);
        x.set(201, 1, true);
        OneStep.go(x);
        due.same("line 0, k 1", 63, x.printed(0, 1));
        due.same("line 0, k 2", 0, x.printed(0, 2));
        due.same("line 0, k 131", 0, x.printed(0, 131));
        due.same("line 0, k 132", 62, x.printed(0, 132));
        due.same("line 1, k 1", 1, x.printed(1, 1));
        due.same("line 1, k 132", 62, x.printed(1, 132));
    }

    private static void noSuchLine(Due due) {
        CharMachine x = OneStep.machine(Op.PRINT);
        due.fails("no line yet", IndexOutOfBoundsException.class, () -> x.printed(0, 1));
        OneStep.go(x);
        due.same("a line", 0, x.printed(0, 1));
        for (int line : new int[] {-1, 1, 39, 40, LEAST, MOST}) {
            due.fails("line " + line, IndexOutOfBoundsException.class, () -> x.printed(line, 1));
        }
        CharMachine y = OneStep.machine(Op.PUNCH);
        OneStep.go(y);
        due.fails("a punched card is no line", IndexOutOfBoundsException.class, () -> y.printed(0, 1));
    }

    private static void noSuchPlaceInALine(Due due) {
        CharMachine x = OneStep.machine(Op.PRINT);
        OneStep.go(x);
        OneStep.go(x);
        for (int k : new int[] {0, 133, -1, 134, LEAST, MOST}) {
            due.fails("k " + k, IndexOutOfBoundsException.class, () -> x.printed(0, k));
            due.fails("k " + k + " of the last line", IndexOutOfBoundsException.class, () -> x.printed(1, k));
        }
    }

    private static void punchedAtTheEnds(Due due) {
        CharMachine x = OneStep.machine(Op.PUNCH);
        x.set(100, 11, true);
        x.set(101, 63, true);
        x.set(180, 62, true);
        x.set(181, 12, true);
        OneStep.go(x);
        x.set(101, 1, true);
        OneStep.go(x);
        due.same("card 0, k 1", 63, x.punched(0, 1));
        due.same("card 0, k 2", 0, x.punched(0, 2));
        due.same("card 0, k 79", 0, x.punched(0, 79));
        due.same("card 0, k 80", 62, x.punched(0, 80));
        due.same("card 1, k 1", 1, x.punched(1, 1));
        due.same("card 1, k 80", 62, x.punched(1, 80));
    }

    private static void noSuchPunchedCard(Due due) {
        CharMachine x = OneStep.machine(Op.PUNCH);
        due.fails("no card yet", IndexOutOfBoundsException.class, () -> x.punched(0, 1));
        OneStep.go(x);
        due.same("a card", 0, x.punched(0, 1));
        for (int card : new int[] {-1, 1, 19, 20, LEAST, MOST}) {
            due.fails("card " + card, IndexOutOfBoundsException.class, () -> x.punched(card, 1));
        }
        CharMachine y = OneStep.machine(Op.PRINT);
        y.card();
        OneStep.go(y);
        due.fails("a line or a card to be read is none", IndexOutOfBoundsException.class, () -> y.punched(0, 1));
    }

    private static void noSuchPunchedColumn(Due due) {
        CharMachine x = OneStep.machine(Op.PUNCH);
        OneStep.go(x);
        OneStep.go(x);
        for (int k : new int[] {0, 81, -1, 82, LEAST, MOST}) {
            due.fails("k " + k, IndexOutOfBoundsException.class, () -> x.punched(0, k));
            due.fails("k " + k + " of the last card", IndexOutOfBoundsException.class, () -> x.punched(1, k));
        }
    }

    private static void countOfCards(Due due) {
        CharMachine x = OneStep.machine(Op.READ);
        due.same("none", 0, x.count(0));
        x.column(1, 1);
        due.same("the one that is made up is none", 0, x.count(0));
        for (int n = 1; n <= 20; n++) {
            x.card();
            due.same("cards", n, x.count(0));
        }
        for (int n = 19; n >= 0; n--) {
            OneStep.go(x);
            due.same("cards left", n, x.count(0));
        }
        OneStep.go(x);
        due.same("without a card", 0, x.count(0));
    }

    private static void countOfLines(Due due) {
        CharMachine x = OneStep.machine(Op.PRINT);
        due.same("none", 0, x.count(1));
        for (int n = 1; n <= 40; n++) {
            OneStep.go(x);
            due.same("lines", n, x.count(1));
        }
        OneStep.go(x);
        due.same("40 at most", 40, x.count(1));
    }

    private static void countOfPunchedCards(Due due) {
        CharMachine x = OneStep.machine(Op.PUNCH);
        due.same("none", 0, x.count(2));
        for (int n = 1; n <= 20; n++) {
            OneStep.go(x);
            due.same("punched cards", n, x.count(2));
        }
        OneStep.go(x);
        due.same("20 at most", 20, x.count(2));
    }

    private static void countOfMarks(Due due) {
        CharMachine x = new CharMachine(400);
        due.same("none", 0, x.count(3));
        for (int at = 0; at < 400; at += 8) {
            x.put(at, EIGHT, 255);
            due.same("marks", at + 8, x.count(3));
        }
        x.set(0, 1, false);
        x.set(399, 1, false);
        due.same("two less", 398, x.count(3));
    }

    private static void noSuchCount(Due due) {
        CharMachine x = new CharMachine(400);
        for (int what : new int[] {-1, 4, 5, 64, LEAST, MOST}) {
            due.same("count(" + what + ")", CharMachine.NONE, x.count(what));
        }
    }
}
