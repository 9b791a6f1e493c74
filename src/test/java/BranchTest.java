/** Promise 7: B, V, N and the halt. */
public final class BranchTest {
    private static final Due DUE = new Due();
    private static final int LOW = 0;
    private static final int EQUAL = 1;
    private static final int HIGH = 2;

    public static void main(String[] args) {
        always();
        byIndicators();
        byOverflow();
        byLastCard();
        byCharacter();
        byPosition();
        halt();
        DUE.end();
    }

    private static void always() {
        Bench x = new Bench(DUE, "B");
        x.registers(11, 22).one(0, Op.BRANCH).i(11).a(701).b(22);
        x.four(0, Op.BRANCH, 345).i(345).a(704).b(345);
        x.five(0, Op.BRANCH, 345, 0).i(345).a(705).b(345);
        x.four(0, Op.BRANCH, 15999).i(15999).a(704).b(15999);
        DUE.same("there is no such place", 2, x.machine.run(1));
    }

    private static Bench compared(int result) {
        return new Bench(DUE, "B by " + result).field(605, 5).field(625, 4 + result)
            .seven(0, Op.COMPARE, 605, 625).state(3, result - 1);
    }

    private static void byIndicators() {
        for (int result = LOW; result <= HIGH; result++) {
            for (int modifier = 0; modifier < 64; modifier++) {
                boolean goes = modifier == 0 || modifier == 17 && result != EQUAL
                    || modifier == 18 && result == EQUAL || modifier == 19 && result == LOW
                    || modifier == 20 && result == HIGH;
                Bench x = compared(result).five(0, Op.BRANCH, 345, modifier);
                x.i(goes ? 345 : 705).a(goes ? 705 : 345).b(345).state(3, result - 1);
            }
        }
    }

    private static void byOverflow() {
        Bench x = new Bench(DUE, "B by overflow").field(605, 9).field(625, 9);
        x.seven(0, Op.ADD, 605, 625).state(4, 1);
        x.five(0, Op.BRANCH, 345, 49).i(705).state(4, 1);
        x.five(0, Op.BRANCH, 345, 25).i(345).a(705).b(345).state(4, 0);
        x.five(0, Op.BRANCH, 345, 25).i(705).a(345).b(345).state(4, 0);
    }

    private static void byLastCard() {
        Bench x = new Bench(DUE, "B by last card");
        x.machine.card();
        x.machine.card();
        x.one(0, Op.READ).five(0, Op.BRANCH, 345, 49).i(705).a(345);
        x.one(0, Op.READ).five(0, Op.BRANCH, 345, 49).i(345).a(705).state(5, 1);
        x.five(0, Op.BRANCH, 345, 49).i(345).state(5, 1);
    }

    private static void byCharacter() {
        Bench x = new Bench(DUE, "B by character").field(605, 49).field(606, 0);
        x.eight(0, Op.BRANCH, 345, 605, 49).i(345).a(708).b(604);
        x.eight(0, Op.BRANCH, 345, 605, 1).i(708).a(345).b(604);
        x.eight(0, Op.BRANCH, 345, 606, 0).i(345).a(708).b(605);
        x.eight(0, Op.BRANCH, 345, 604, 0).i(345).a(708).b(603);
        x.eight(0, Op.BRANCH, 345, 0, 0).i(345).a(708).b(-1);
        x.eight(2, Op.BRANCH, 345, 1400, 0).i(708).a(345).b(1400);
    }

    private static boolean isAsAsked(int character, boolean mark, int modifier) {
        int zone = character / 16;
        switch (modifier) {
            case 1: return mark;
            case 2: return zone == 0;
            case 50: return zone == 3;
            case 34: return zone == 2;
            case 18: return zone == 1;
            case 3: return mark || zone == 0;
            case 51: return mark || zone == 3;
            case 35: return mark || zone == 2;
            case 19: return mark || zone == 1;
            default: return false;
        }
    }

    private static void byPosition() {
        int[] characters = {0, 5, 15, 16, 21, 31, 32, 37, 47, 48, 53, 63};
        for (int character : characters) {
            for (int modifier = 0; modifier < 64; modifier++) {
                for (int mark = 0; mark < 2; mark++) {
                    boolean goes = isAsAsked(character, mark == 1, modifier);
                    Bench x = new Bench(DUE, "V " + modifier + " of " + character + " " + mark);
                    x.machine.set(605, character, mark == 1);
                    x.eight(0, Op.TEST, 345, 605, modifier);
                    x.i(goes ? 345 : 708).a(goes ? 708 : 345).b(604).marks("" + mark, 605).is(605, character);
                }
            }
        }
        Bench x = new Bench(DUE, "V at the edges");
        x.eight(0, Op.TEST, 345, 0, 2).i(345).a(708).b(-1);
        x.eight(2, Op.TEST, 345, 1400, 2).i(708).a(345).b(1400);
    }

    private static void halt() {
        Bench x = new Bench(DUE, "halt").registers(11, 22);
        x.one(6, Op.HALT).i(701).a(11).b(22).state(7, 6);
        x.four(6, Op.HALT, 345).i(345).a(704).b(345).state(7, 6);
    }
}
