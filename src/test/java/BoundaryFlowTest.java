/** Every sentence about B, V, 1, 2, 4, N and the halt that names a boundary, by a test of its own. */
public final class BoundaryFlowTest {
    private static final int A = 16;
    private static final int B = 32;
    private static final int BA = 48;

    public static void main(String[] args) {
        Sentences all = new Sentences();
        branches(all);
        positions(all);
        cards(all);
        all.end();
    }

    private static void branches(Sentences all) {
        all.holds("B: lengths 1, 4: to A", BoundaryFlowTest::toA);
        all.holds("B 5: by its modifier: 0 always", BoundaryFlowTest::always);
        all.holds("B 5: 17 if UNEQUAL, 18 EQUAL, 19 LOW, 20 HIGH", BoundaryFlowTest::byComparison);
        all.holds("B 5: 25 OVERFLOW (which goes off)", BoundaryFlowTest::byOverflow);
        all.holds("B 5: 49 LAST CARD", BoundaryFlowTest::byLastCard);
        all.holds("B 5: others never", BoundaryFlowTest::othersNever);
        all.holds("B 8: if the character at B is the modifier", BoundaryFlowTest::byCharacter);
        all.holds("B 8: B is one less", BoundaryFlowTest::byCharacterPlace);
        all.holds("Going there: A becomes I, then I the A-address", BoundaryFlowTest::goingThere);
        all.holds("not going there A stays as it is", BoundaryFlowTest::notGoingThere);
    }

    private static void positions(Sentences all) {
        all.holds("V: modifier 1: has a word mark", BoundaryFlowTest::byMark);
        all.holds("V: 2: no zone; 50: zones B and A; 34: B alone; 18: A alone", BoundaryFlowTest::byZone);
        all.holds("V: 3, 51, 35, 19: a mark or that of 2, 50, 34, 18", BoundaryFlowTest::byMarkOrZone);
        all.holds("V: others never", BoundaryFlowTest::byNothing);
        all.holds("V: B one less", BoundaryFlowTest::byPositionPlace);
    }

    private static void cards(Sentences all) {
        all.holds("1 reads a card to positions 1 .. 80, marks stay", BoundaryFlowTest::read);
        all.holds("1: without a card it stops by 4", BoundaryFlowTest::noCard);
        all.holds("1: LAST CARD is on if it was the last one, else off", BoundaryFlowTest::lastCard);
        all.holds("2 prints positions 201 .. 332 as a line", BoundaryFlowTest::print);
        all.holds("2: with 40 lines stop 5", BoundaryFlowTest::manyLines);
        all.holds("4 punches positions 101 .. 180 as a card", BoundaryFlowTest::punch);
        all.holds("4: with 20 cards stop 5", BoundaryFlowTest::manyCards);
        all.holds("1, 2, 4: a modifier is not looked at", BoundaryFlowTest::modifierOfACard);
        all.holds("1, 2, 4: with an address it goes there as B does", BoundaryFlowTest::cardAndGo);
        all.holds("1, 2, 4: B is 81, 333, 181 behind them", BoundaryFlowTest::placeBehindACard);
        all.holds("1, 2, 4: with length 1, 2 A stays", BoundaryFlowTest::cardLeavesA);
        all.holds("N: any of the lengths: nothing more", BoundaryFlowTest::nothingMore);
        all.holds(". stops by 6", BoundaryFlowTest::halt);
        all.holds(". with length 4, I becomes the A-address", BoundaryFlowTest::haltAndGo);
    }

    private static void toA(Due due) {
        Bench x = new Bench(due, "B").registers(345, 22).one(0, Op.BRANCH).i(345).a(701).b(22);
        x.four(0, Op.BRANCH, 0).i(0).a(704).b(0).four(0, Op.BRANCH, 1399).i(1399).a(704);
        x.four(0, Op.BRANCH, 700).i(700).a(704);
        for (int nowhere : new int[] {1400, 15999}) {
            x.four(0, Op.BRANCH, nowhere).i(nowhere).a(704);
            due.same("nowhere", 2, x.machine.run(1));
            x.i(nowhere).a(704);
        }
    }

    private static void always(Due due) {
        Bench x = new Bench(due, "B 5").five(0, Op.BRANCH, 345, 0).i(345).a(705).b(345);
        x.five(0, Op.BRANCH, 15999, 0).i(15999).a(705).five(0, Op.BRANCH, 0, 0).i(0).a(705).b(0);
    }

    private static Bench compared(Due due, int order) {
        return new Bench(due, "order " + order).field(605, 5).field(625, 5 + order)
            .seven(0, Op.COMPARE, 605, 625).state(3, order);
    }

    private static void byComparison(Due due) {
        for (int order = -1; order <= 1; order++) {
            compared(due, order).five(0, Op.BRANCH, 345, 17).i(order != 0 ? 345 : 705).state(3, order);
            compared(due, order).five(0, Op.BRANCH, 345, 18).i(order == 0 ? 345 : 705).state(3, order);
            compared(due, order).five(0, Op.BRANCH, 345, 19).i(order < 0 ? 345 : 705).state(3, order);
            compared(due, order).five(0, Op.BRANCH, 345, 20).i(order > 0 ? 345 : 705).state(3, order);
        }
    }

    private static void byOverflow(Due due) {
        Bench x = new Bench(due, "OVERFLOW").field(605, 9).field(625, 9).five(0, Op.BRANCH, 345, 25).i(705);
        x.seven(0, Op.ADD, 605, 625).state(4, 1).five(0, Op.BRANCH, 345, 25).i(345).a(705).state(4, 0);
        x.five(0, Op.BRANCH, 345, 25).i(705).a(345).state(4, 0);
        x.seven(0, Op.ADD, 605, 625).state(4, 1);
        x.five(0, Op.BRANCH, 345, 0).state(4, 1).five(0, Op.BRANCH, 345, 24).state(4, 1);
        x.two(0, Op.NOP, 25).eight(0, Op.BRANCH, 345, 605, 25).state(4, 1);
    }

    private static void byLastCard(Due due) {
        Bench x = new Bench(due, "LAST CARD").five(0, Op.BRANCH, 345, 49).i(705);
        x.machine.card();
        x.machine.card();
        x.one(0, Op.READ).five(0, Op.BRANCH, 345, 49).i(705).one(0, Op.READ);
        x.five(0, Op.BRANCH, 345, 49).i(345).state(5, 1).five(0, Op.BRANCH, 345, 49).i(345);
    }

    private static void othersNever(Due due) {
        for (int order = -1; order <= 1; order++) {
            for (int modifier = 1; modifier < 64; modifier++) {
                if (modifier == 17 || modifier == 18 || modifier == 19 || modifier == 20) {
                    continue;
                }
                Bench x = compared(due, order);
                if (modifier != 25) {
                    x.field(605, 9).field(625, 9).seven(0, Op.ADD, 605, 625).state(4, 1);
                }
                if (modifier != 49) {
                    x.machine.card();
                    x.one(0, Op.READ).state(5, 1);
                }
                x.five(0, Op.BRANCH, 345, modifier).i(705).a(345).state(4, modifier != 25 ? 1 : 0);
            }
        }
    }

    private static void byCharacter(Due due) {
        for (int character = 0; character < 64; character++) {
            Bench x = new Bench(due, "B 8 of " + character).plain(605, character);
            x.eight(0, Op.BRANCH, 345, 605, character).i(345);
            x.eight(0, Op.BRANCH, 345, 605, character ^ 32).i(708).eight(0, Op.BRANCH, 345, 605, character ^ 1).i(708);
            // A mark is no part of the character.
            x.field(605, character).eight(0, Op.BRANCH, 345, 605, character).i(345).marks("1", 605);
        }
    }

    private static void byCharacterPlace(Due due) {
        Bench x = new Bench(due, "B 8").eight(0, Op.BRANCH, 345, 605, 0).b(604).eight(0, Op.BRANCH, 345, 605, 1).b(604);
        x.eight(0, Op.BRANCH, 345, 0, 0).i(345).b(-1).eight(0, Op.BRANCH, 345, 0, 1).i(708).b(-1);
        x.eight(0, Op.BRANCH, 345, 1399, 0).b(1398).eight(2, Op.BRANCH, 345, 1400, 0).b(1400);
    }

    private static void goingThere(Due due) {
        Bench x = new Bench(due, "going").registers(345, 22).one(0, Op.BRANCH).i(345).a(701);
        x.four(0, Op.BRANCH, 346).i(346).a(704).five(0, Op.BRANCH, 347, 0).i(347).a(705);
        x.eight(0, Op.BRANCH, 348, 605, 0).i(348).a(708).eight(0, Op.TEST, 349, 605, 2).i(349).a(708);
        x.four(0, Op.BRANCH, 704).i(704).a(704);
    }

    private static void notGoingThere(Due due) {
        Bench x = new Bench(due, "not going").five(0, Op.BRANCH, 345, 17).i(705).a(345).b(345);
        x.eight(0, Op.BRANCH, 346, 605, 1).i(708).a(346).eight(0, Op.TEST, 347, 605, 1).i(708).a(347);
        x.five(0, Op.BRANCH, 15999, 63).i(705).a(15999).b(15999);
    }

    private static void isAsked(Due due, int modifier, int character, boolean mark, boolean goes) {
        Bench x = new Bench(due, "V " + modifier + " of " + character + (mark ? " marked" : ""));
        x.machine.set(605, character, mark);
        x.eight(0, Op.TEST, 345, 605, modifier).i(goes ? 345 : 708).a(goes ? 708 : 345).b(604);
    }

    private static void byMark(Due due) {
        for (int character : new int[] {0, 1, 15, A, B, BA, 63}) {
            isAsked(due, 1, character, true, true);
            isAsked(due, 1, character, false, false);
        }
    }

    private static final int[][] ZONE_MODIFIERS = {{2, 0}, {50, BA}, {34, B}, {18, A}};

    private static void byZone(Due due) {
        for (int[] asked : ZONE_MODIFIERS) {
            for (int character = 0; character < 64; character++) {
                boolean goes = character / 16 * 16 == asked[1];
                isAsked(due, asked[0], character, false, goes);
                isAsked(due, asked[0], character, true, goes);
            }
        }
    }

    private static void byMarkOrZone(Due due) {
        for (int[] asked : ZONE_MODIFIERS) {
            for (int character = 0; character < 64; character++) {
                isAsked(due, asked[0] + 1, character, false, character / 16 * 16 == asked[1]);
                isAsked(due, asked[0] + 1, character, true, true);
            }
        }
    }

    private static void byNothing(Due due) {
        for (int modifier = 0; modifier < 64; modifier++) {
            int low = modifier % 16;
            boolean told = modifier == 1 || low == 2 || low == 3;
            for (int character = 0; character < 64 && !told; character += 5) {
                isAsked(due, modifier, character, true, false);
                isAsked(due, modifier, character, false, false);
            }
        }
    }

    private static void byPositionPlace(Due due) {
        Bench x = new Bench(due, "V").eight(0, Op.TEST, 345, 0, 2).i(345).b(-1).eight(0, Op.TEST, 345, 0, 1).b(-1);
        x.eight(0, Op.TEST, 345, 1399, 2).b(1398).eight(0, Op.TEST, 345, 605, 63).b(604);
        x.eight(2, Op.TEST, 345, 1400, 2).i(708).a(345).b(1400).eight(2, Op.TEST, 345, 1400, 63).i(708).b(1400);
    }

    private static void read(Due due) {
        Bench x = new Bench(due, "1").field(0, 50).field(1, 51).plain(2, 52).field(80, 53).field(81, 54);
        for (int column = 1; column <= 80; column++) {
            x.machine.column(column, (column * 3 + 1) % 64);
        }
        x.machine.card();
        x.one(0, Op.READ).is(0, 50).is(81, 54).marks("110", 2).marks("011", 81);
        for (int column = 1; column <= 80; column++) {
            x.is(column, (column * 3 + 1) % 64);
        }
    }

    private static void noCard(Due due) {
        Bench x = new Bench(due, "no card").field(1, 50).registers(11, 22);
        x.machine.column(1, 7);
        x.one(4, Op.READ).i(701).a(11).b(22).two(4, Op.READ, 1).i(702).a(11).b(22).is(1, 50).state(5, 0);
        x.four(4, Op.READ, 345).i(704).a(345).b(345).five(4, Op.READ, 346, 0).i(705).a(346).b(346).is(1, 50);
        x.machine.card();
        x.one(0, Op.READ).is(1, 7).one(4, Op.READ).is(1, 7).state(5, 1);
    }

    private static void lastCard(Due due) {
        Bench x = new Bench(due, "LAST CARD");
        x.machine.card();
        x.one(0, Op.READ).state(5, 1);
        x.machine.card();
        x.machine.card();
        x.state(5, 1).one(0, Op.READ).state(5, 0).one(0, Op.READ).state(5, 1);
        for (int n = 4; n <= 20; n++) {
            x.machine.card();
        }
        for (int n = 4; n <= 20; n++) {
            x.one(0, Op.READ).state(5, n == 20 ? 1 : 0);
        }
    }

    private static void print(Due due) {
        Bench x = new Bench(due, "2");
        for (int position = 200; position <= 333; position++) {
            x.machine.set(position, (position * 3 + 1) % 64, position % 5 == 0);
        }
        x.one(0, Op.PRINT);
        for (int k = 1; k <= 132; k++) {
            due.same("printed " + k, ((200 + k) * 3 + 1) % 64, x.machine.printed(0, k));
        }
        x.is(201, 28).marks("1", 205).count(1, 1).count(2, 0);
    }

    private static void manyLines(Due due) {
        CharMachine x = OneStep.machine(Op.PRINT);
        for (int n = 0; n < 40; n++) {
            x.set(332, n + 1, false);
            due.same("line " + n, 0, OneStep.go(x));
        }
        x.set(332, 63, false);
        due.same("line 40", 5, OneStep.go(x));
        due.same("I is behind it", OneStep.PLACE + 1, x.state(0));
        due.same("lines", 40, x.count(1));
        for (int n = 0; n < 40; n++) {
            due.same("line " + n + " stays", n + 1, x.printed(n, 132));
        }
        due.same("again", 5, OneStep.go(x));
        x.set(OneStep.PLACE, Op.PUNCH, true);
        due.same("a card can be punched", 0, OneStep.go(x));
    }

    private static void punch(Due due) {
        Bench x = new Bench(due, "4");
        for (int position = 100; position <= 181; position++) {
            x.machine.set(position, (position * 3 + 1) % 64, position % 5 == 0);
        }
        x.one(0, Op.PUNCH);
        for (int k = 1; k <= 80; k++) {
            due.same("punched " + k, ((100 + k) * 3 + 1) % 64, x.machine.punched(0, k));
        }
        x.is(101, 48).marks("1", 105).count(2, 1).count(1, 0).count(0, 0);
    }

    private static void manyCards(Due due) {
        CharMachine x = OneStep.machine(Op.PUNCH);
        for (int n = 0; n < 20; n++) {
            x.set(180, n + 1, false);
            due.same("card " + n, 0, OneStep.go(x));
        }
        x.set(180, 63, false);
        due.same("card 20", 5, OneStep.go(x));
        due.same("I is behind it", OneStep.PLACE + 1, x.state(0));
        due.same("cards", 20, x.count(2));
        for (int n = 0; n < 20; n++) {
            due.same("card " + n + " stays", n + 1, x.punched(n, 80));
        }
        due.same("again", 5, OneStep.go(x));
        due.same("a card can be made up", 1, x.card());
        x.set(OneStep.PLACE, Op.PRINT, true);
        due.same("a line can be printed", 0, OneStep.go(x));
    }

    private static void modifierOfACard(Due due) {
        for (int operation : new int[] {Op.READ, Op.PRINT, Op.PUNCH}) {
            for (int modifier : new int[] {0, 1, 17, 18, 49, 63}) {
                Bench x = new Bench(due, operation + " by " + modifier);
                x.machine.card();
                x.machine.card();
                x.two(0, operation, modifier).i(702).five(0, operation, 345, modifier).i(345);
                x.count(operation == Op.READ ? 0 : operation == Op.PRINT ? 1 : 2, operation == Op.READ ? 0 : 2);
            }
        }
    }

    private static void cardAndGo(Due due) {
        for (int operation : new int[] {Op.READ, Op.PRINT, Op.PUNCH}) {
            Bench x = new Bench(due, operation + " and go");
            x.machine.card();
            x.machine.card();
            x.machine.card();
            x.four(0, operation, 345).i(345).a(704).five(0, operation, 346, 63).i(346).a(705);
            x.four(0, operation, 15999).i(15999).a(704);
            due.same("there is no such place", 2, x.machine.run(1));
        }
    }

    private static void placeBehindACard(Due due) {
        int[][] behind = {{Op.READ, 81}, {Op.PRINT, 333}, {Op.PUNCH, 181}};
        for (int[] o : behind) {
            Bench x = new Bench(due, "B behind " + o[0]);
            for (int n = 0; n < 4; n++) {
                x.machine.card();
            }
            x.registers(11, 22).one(0, o[0]).b(o[1]).registers(11, 22).two(0, o[0], 5).b(o[1]);
            x.four(0, o[0], 345).b(o[1]).five(0, o[0], 345, 5).b(o[1]);
        }
    }

    private static void cardLeavesA(Due due) {
        for (int operation : new int[] {Op.READ, Op.PRINT, Op.PUNCH}) {
            Bench x = new Bench(due, operation + " leaves A").registers(15999, 22);
            x.machine.card();
            x.machine.card();
            x.one(0, operation).i(701).a(15999).two(0, operation, 0).i(702).a(15999);
        }
    }

    private static void nothingMore(Due due) {
        Bench x = new Bench(due, "N").field(605, 9).field(625, 8).registers(605, 625);
        x.one(0, Op.NOP).two(0, Op.NOP, 0).a(605).b(625).four(0, Op.NOP, 15999).five(0, Op.NOP, 15999, 0);
        x.seven(0, Op.NOP, 605, 1400).a(605).b(1400).eight(0, Op.NOP, 1400, 625, 0).a(1400).b(625).i(708);
        x.is(605, 9).is(625, 8).marks("1", 605).marks("1", 625).state(3, 0).state(4, 0).count(1, 0);
    }

    private static void halt(Due due) {
        Bench x = new Bench(due, "halt").registers(11, 22).one(6, Op.HALT).i(701).a(11).b(22).state(7, 6);
        x.one(6, Op.HALT).i(701).state(6, 3);
    }

    private static void haltAndGo(Due due) {
        Bench x = new Bench(due, "halt").four(6, Op.HALT, 345).i(345).a(704).b(345).state(7, 6);
        x.four(6, Op.HALT, 15999).i(15999).a(704).b(15999);
        due.same("there is no such place", 2, x.machine.run(1));
        x.instruction(345, Op.NOP).four(6, Op.HALT, 345);
        due.same("it goes on from there", 0, x.machine.run(1));
        x.i(346);
    }
}
