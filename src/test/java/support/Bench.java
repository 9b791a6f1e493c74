/** A machine on which a test writes fields and instructions, and does these one at a time. */
final class Bench {
    static final int PROGRAM = 700;

    final CharMachine machine;
    private final Due due;
    private final String name;

    Bench(Due due, String name) {
        this(due, name, 1400);
    }

    Bench(Due due, String name, int size) {
        this.due = due;
        this.name = name;
        machine = new CharMachine(size);
    }

    /** Characters up to the units, the first one with a word mark. */
    Bench field(int units, int... characters) {
        for (int k = 0; k < characters.length; k++) {
            machine.set(units - characters.length + 1 + k, characters[k], k == 0);
        }
        return this;
    }

    /** A field of digits whose units have a zone. */
    Bench digits(int units, String digits, int zone) {
        int[] characters = new int[digits.length()];
        for (int k = 0; k < characters.length; k++) {
            characters[k] = digit(digits.charAt(k) - '0');
        }
        characters[characters.length - 1] |= zone;
        return field(units, characters);
    }

    static int digit(int value) {
        return value == 0 ? 10 : value;
    }

    /** Characters without marks. */
    Bench plain(int rightmost, int... characters) {
        for (int k = 0; k < characters.length; k++) {
            machine.set(rightmost - characters.length + 1 + k, characters[k], false);
        }
        return this;
    }

    Bench instruction(int from, int... characters) {
        for (int k = 0; k < characters.length; k++) {
            machine.set(from + k, characters[k], k == 0);
        }
        machine.set(from + characters.length, Op.NOP, true);
        machine.start(from);
        return this;
    }

    static int[] address(int address) {
        int hundreds = digit(address / 100 % 10);
        int units = digit(address % 10);
        hundreds |= (address / 1000 & 1) != 0 ? 16 : 0;
        hundreds |= (address / 1000 & 2) != 0 ? 32 : 0;
        units |= (address / 1000 & 4) != 0 ? 16 : 0;
        units |= (address / 1000 & 8) != 0 ? 32 : 0;
        return new int[] {hundreds, digit(address / 10 % 10), units};
    }

    /** One instruction is written where programs stand and done; its answer must be the one told. */
    private Bench step(int reason, int... characters) {
        instruction(PROGRAM, characters);
        due.same(name + ": the step", reason, machine.run(1));
        return this;
    }

    Bench one(int reason, int operation) {
        return step(reason, operation);
    }

    Bench two(int reason, int operation, int modifier) {
        return step(reason, operation, modifier);
    }

    Bench four(int reason, int operation, int a) {
        int[] p = address(a);
        return step(reason, operation, p[0], p[1], p[2]);
    }

    Bench five(int reason, int operation, int a, int modifier) {
        int[] p = address(a);
        return step(reason, operation, p[0], p[1], p[2], modifier);
    }

    Bench seven(int reason, int operation, int a, int b) {
        int[] p = address(a);
        int[] q = address(b);
        return step(reason, operation, p[0], p[1], p[2], q[0], q[1], q[2]);
    }

    Bench eight(int reason, int operation, int a, int b, int modifier) {
        int[] p = address(a);
        int[] q = address(b);
        return step(reason, operation, p[0], p[1], p[2], q[0], q[1], q[2], modifier);
    }

    /** A and B are set by an instruction that does nothing more. */
    Bench registers(int a, int b) {
        return seven(0, Op.NOP, a, b);
    }

    Bench is(int rightmost, int... characters) {
        for (int k = 0; k < characters.length; k++) {
            int position = rightmost - characters.length + 1 + k;
            due.same(name + ": at(" + position + ")", characters[k], machine.at(position));
        }
        return this;
    }

    Bench marks(String marks, int rightmost) {
        for (int k = 0; k < marks.length(); k++) {
            int position = rightmost - marks.length() + 1 + k;
            due.same(name + ": isMarked(" + position + ")", marks.charAt(k) == '1' ? 1 : 0,
                    machine.isMarked(position) ? 1 : 0);
        }
        return this;
    }

    Bench i(int position) {
        return state(0, position);
    }

    Bench a(int position) {
        return state(1, position);
    }

    Bench b(int position) {
        return state(2, position);
    }

    Bench state(int what, int value) {
        due.same(name + ": state(" + what + ")", value, machine.state(what));
        return this;
    }

    Bench count(int what, int value) {
        due.same(name + ": count(" + what + ")", value, machine.count(what));
        return this;
    }

    Bench number(int units, long value) {
        due.same(name + ": number(" + units + ")", value, machine.number(units));
        return this;
    }
}
