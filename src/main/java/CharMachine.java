/**
 * A machine with a store of characters that have word marks, decimal fields of any length,
 * instructions that chain, cards in and out and a printer, after the IBM 1401.
 */
public final class CharMachine {
    public static final int NONE = -1;

    private static final int LEAST_SIZE = 400;
    private static final int MOST_SIZE = 2000;
    private static final int USUAL_SIZE = 1400;
    private static final int MOST_STEPS = 20000;
    private static final int MOST_NUMBER_LENGTH = 18;

    private static final int CHARACTERS = 64;
    private static final int CHARACTER_BITS = 63;
    private static final int ZONE_BITS = 48;
    private static final int DIGIT_BITS = 15;
    private static final int ZONE_B = 32;
    private static final int ZONE_A = 16;
    private static final int BLANK = 0;
    private static final int ZERO = 10;
    private static final int COMMA = 27;
    private static final int ADDRESSES = 16000;

    private static final int GOES_ON = 0;
    private static final int STOP_NO_MARK = 1;
    private static final int STOP_NO_POSITION = 2;
    private static final int STOP_NO_INSTRUCTION = 3;
    private static final int STOP_NO_CARD = 4;
    private static final int STOP_PILE_FULL = 5;
    private static final int STOP_HALT = 6;

    private static final int CARD_WIDTH = 80;
    private static final int CARD_LIMIT = 20;
    private static final int LINE_WIDTH = 132;
    private static final int LINE_LIMIT = 40;
    private static final int READ_AREA = 1;
    private static final int PUNCH_AREA = 101;
    private static final int PRINT_AREA = 201;

    private static final int ADD = 49;
    private static final int SUBTRACT = 18;
    private static final int ZERO_AND_ADD = 58;
    private static final int ZERO_AND_SUBTRACT = 42;
    private static final int MOVE = 36;
    private static final int LOAD = 35;
    private static final int MOVE_DIGIT = 52;
    private static final int MOVE_ZONE = 24;
    private static final int COMPARE = 51;
    private static final int SET_MARKS = 27;
    private static final int CLEAR_MARKS = 60;
    private static final int CLEAR = 17;
    private static final int SUPPRESS_ZEROS = 25;
    private static final int BRANCH = 50;
    private static final int BRANCH_BY_POSITION = 21;
    private static final int READ = 1;
    private static final int PRINT = 2;
    private static final int PUNCH = 4;
    private static final int STORE_A = 40;
    private static final int STORE_B = 56;
    private static final int NO_OPERATION = 37;
    private static final int HALT = 59;

    private final Store store;
    private final Pile cards;
    private final Pile lines;
    private final Pile punches;
    private final Processor processor;
    private int stepsSoFar;
    private int latestAnswer;

    public CharMachine(int size) {
        store = new Store(size < LEAST_SIZE || size > MOST_SIZE ? USUAL_SIZE : size);
        cards = new Pile(CARD_LIMIT, CARD_WIDTH);
        lines = new Pile(LINE_LIMIT, LINE_WIDTH);
        punches = new Pile(CARD_LIMIT, CARD_WIDTH);
        processor = new Processor(store, cards, lines, punches);
    }

    public boolean set(int at, int character, boolean mark) {
        if (!store.has(at) || !isCharacter(character)) {
            return false;
        }
        store.place(at, character, mark);
        return true;
    }

    public int put(int at, long characters, int marks) throws IllegalArgumentException {
        int length = charactersIn(characters);
        if (length > 0 && (at < 0 || at > store.size() - length)) {
            throw new IllegalArgumentException();
        }
        for (int k = 0; k < length; k++) {
            store.place(at + k, byteOf(characters, k), ((marks >> k) & 1) == 1);
        }
        return length;
    }

    public boolean column(int column, int character) {
        if (column < 1 || column > CARD_WIDTH || !isCharacter(character)) {
            return false;
        }
        cards.write(column, character);
        return true;
    }

    public int card() throws IllegalStateException {
        if (cards.isFull()) {
            throw new IllegalStateException();
        }
        cards.close();
        return processor.cardsToRead();
    }

    public boolean start(int at) {
        if (!store.has(at)) {
            return false;
        }
        processor.i = at;
        return true;
    }

    public int run(int steps) throws IllegalArgumentException {
        if (steps < 1 || steps > MOST_STEPS) {
            throw new IllegalArgumentException();
        }
        int reason = GOES_ON;
        for (int k = 0; k < steps && reason == GOES_ON; k++) {
            reason = processor.step();
            stepsSoFar++;
        }
        latestAnswer = reason;
        return reason;
    }

    public int at(int position) throws IndexOutOfBoundsException {
        if (!store.has(position)) {
            throw new IndexOutOfBoundsException();
        }
        return store.character(position);
    }

    public boolean isMarked(int position) throws IndexOutOfBoundsException {
        if (!store.has(position)) {
            throw new IndexOutOfBoundsException();
        }
        return store.hasMark(position);
    }

    public int state(int what) {
        switch (what) {
            case 0: return processor.i;
            case 1: return processor.a;
            case 2: return processor.b;
            case 3: return processor.comparison;
            case 4: return processor.overflow ? 1 : 0;
            case 5: return processor.lastCard ? 1 : 0;
            case 6: return stepsSoFar;
            case 7: return latestAnswer;
            case 8: return store.size();
            default: return NONE;
        }
    }

    public int printed(int line, int k) throws IndexOutOfBoundsException {
        if (!lines.holds(line, k)) {
            throw new IndexOutOfBoundsException();
        }
        return lines.character(line, k);
    }

    public int punched(int card, int k) throws IndexOutOfBoundsException {
        if (!punches.holds(card, k)) {
            throw new IndexOutOfBoundsException();
        }
        return punches.character(card, k);
    }

    public long number(int units) throws IndexOutOfBoundsException, UnsupportedOperationException {
        int length = store.fieldLength(units);
        if (length == NONE) {
            throw new IndexOutOfBoundsException();
        }
        if (length > MOST_NUMBER_LENGTH) {
            throw new UnsupportedOperationException();
        }
        long value = 0;
        for (int k = length - 1; k >= 0; k--) {
            value = value * 10 + store.digit(units - k);
        }
        return store.isMinus(units) ? -value : value;
    }

    public int count(int what) {
        switch (what) {
            case 0: return processor.cardsToRead();
            case 1: return lines.filled();
            case 2: return punches.filled();
            case 3: return store.markCount();
            default: return NONE;
        }
    }

    private static boolean isCharacter(int character) {
        return character >= 0 && character < CHARACTERS;
    }

    private static int byteOf(long characters, int k) {
        return (int) ((characters >>> (56 - 8 * k)) & 255);
    }

    private static int charactersIn(long characters) {
        int length = 0;
        while (length < 8 && isCharacter(byteOf(characters, length))) {
            length++;
        }
        return length;
    }

    private static int written(int digit) {
        return digit == 0 ? ZERO : digit;
    }

    private static int signZone(boolean minus) {
        return minus ? ZONE_B : ZONE_B | ZONE_A;
    }

    /** The characters and word marks. Callers ask has or a length before they touch a position. */
    private static final class Store {
        private static final int MARK = 64;
        private final int[] cells;

        Store(int size) {
            cells = new int[size];
        }

        int size() {
            return cells.length;
        }

        boolean has(int position) {
            return position >= 0 && position < cells.length;
        }

        /** Whether the position and so many to its left, itself counted, are all there. */
        boolean hasSpan(int rightmost, int length) {
            return has(rightmost) && rightmost >= length - 1;
        }

        int character(int position) {
            return cells[position] & CHARACTER_BITS;
        }

        boolean hasMark(int position) {
            return (cells[position] & MARK) != 0;
        }

        int zone(int position) {
            return cells[position] & ZONE_BITS;
        }

        int digit(int position) {
            return (cells[position] & DIGIT_BITS) % 10;
        }

        boolean isMinus(int units) {
            return zone(units) == ZONE_B;
        }

        void place(int position, int character, boolean mark) {
            cells[position] = mark ? character | MARK : character;
        }

        void write(int position, int character) {
            cells[position] = (cells[position] & MARK) | character;
        }

        void writeZone(int position, int zone) {
            write(position, (character(position) & DIGIT_BITS) | zone);
        }

        void mark(int position, boolean mark) {
            place(position, character(position), mark);
        }

        /** Characters and marks, as they all are before this, even if the spans overlap. */
        void copySpan(int from, int to, int length) {
            System.arraycopy(cells, from - length + 1, cells, to - length + 1, length);
        }

        int fieldLength(int units) {
            return fieldLength(units, cells.length + 1);
        }

        /** The length of the field, at most so much of it; NONE if that leaves the store. */
        int fieldLength(int units, int most) {
            if (!has(units)) {
                return NONE;
            }
            for (int length = 1; length <= units + 1; length++) {
                if (length == most || hasMark(units - length + 1)) {
                    return length;
                }
            }
            return NONE;
        }

        /** The places up to the first mark in either field; NONE if they leave the store. */
        int commonLength(int a, int b) {
            if (!has(a) || !has(b)) {
                return NONE;
            }
            int most = Math.min(a, b) + 1;
            for (int length = 1; length <= most; length++) {
                if (hasMark(a - length + 1) || hasMark(b - length + 1)) {
                    return length;
                }
            }
            return NONE;
        }

        int address(int hundreds) {
            int thousands = zone(hundreds) / ZONE_A + zone(hundreds + 2) / ZONE_A * 4;
            return thousands * 1000 + digit(hundreds) * 100
                    + digit(hundreds + 1) * 10 + digit(hundreds + 2);
        }

        void writeAddress(int units, int address) {
            int thousands = address / 1000;
            write(units - 2, written(address / 100 % 10) | thousands % 4 * ZONE_A);
            write(units - 1, written(address / 10 % 10));
            write(units, written(address % 10) | thousands / 4 * ZONE_A);
        }

        int markCount() {
            int marks = 0;
            for (int position = 0; position < cells.length; position++) {
                if (hasMark(position)) {
                    marks++;
                }
            }
            return marks;
        }
    }

    /** Rows of one width, filled one behind the other up to a limit; columns count from 1. */
    private static final class Pile {
        private final int limit;
        private final int width;
        private final int[] columns;
        private int filled;

        Pile(int limit, int width) {
            this.limit = limit;
            this.width = width;
            // One row more, so that a card can still be made up behind the last one.
            columns = new int[(limit + 1) * width];
        }

        int filled() {
            return filled;
        }

        boolean isFull() {
            return filled >= limit;
        }

        boolean holds(int row, int column) {
            return row >= 0 && row < filled && column >= 1 && column <= width;
        }

        int character(int row, int column) {
            return columns[row * width + column - 1];
        }

        void write(int column, int character) {
            columns[filled * width + column - 1] = character;
        }

        void close() {
            filled++;
        }

        /** A row more, of the store's positions from there on. */
        void copy(Store store, int from) {
            for (int column = 1; column <= width; column++) {
                write(column, store.character(from + column - 1));
            }
            close();
        }
    }

    /** Sums of the field at B with digits that were read before the field changes. */
    private static final class Arithmetic {
        private final Store store;
        private final int[] digits;

        Arithmetic(Store store) {
            this.store = store;
            digits = new int[store.size()];
        }

        /** So many digits, units first: those of the part, then zeros. */
        void readDigits(int units, int part, int length) {
            for (int k = 0; k < length; k++) {
                digits[k] = k < part ? store.digit(units - k) : 0;
            }
        }

        void replace(int units, int length) {
            for (int k = 0; k < length; k++) {
                store.write(units - k, written(digits[k]));
            }
        }

        /** Answers whether a carry was lost. */
        boolean add(int units, int length) {
            int zone = store.zone(units);
            int carry = 0;
            for (int k = 0; k < length; k++) {
                int sum = store.digit(units - k) + digits[k] + carry;
                carry = sum / 10;
                store.write(units - k, written(sum % 10) | (k == 0 ? zone : 0));
            }
            return carry > 0;
        }

        /** Takes the lesser from the greater, as isGreater told it. */
        void subtract(int units, int length, boolean greater) {
            int borrow = 0;
            for (int k = 0; k < length; k++) {
                int own = store.digit(units - k);
                int rest = (greater ? digits[k] - own : own - digits[k]) - borrow;
                borrow = rest < 0 ? 1 : 0;
                store.write(units - k, written(rest + 10 * borrow));
            }
        }

        /** Whether the digits that were read are more than the field. */
        boolean isGreater(int units, int length) {
            for (int k = length - 1; k >= 0; k--) {
                int difference = digits[k] - store.digit(units - k);
                if (difference != 0) {
                    return difference > 0;
                }
            }
            return false;
        }
    }

    /** The registers, the indicators and the operations. An operation answers why it stops. */
    private static final class Processor {
        private final Store store;
        private final Pile cards;
        private final Pile lines;
        private final Pile punches;
        private final Arithmetic arithmetic;
        private int i;
        private int a;
        private int b;
        private int comparison;
        private boolean overflow;
        private boolean lastCard;
        private int cardsRead;

        Processor(Store store, Pile cards, Pile lines, Pile punches) {
            this.store = store;
            this.cards = cards;
            this.lines = lines;
            this.punches = punches;
            arithmetic = new Arithmetic(store);
        }

        int cardsToRead() {
            return cards.filled() - cardsRead;
        }

        int step() {
            if (!store.has(i)) {
                return STOP_NO_POSITION;
            }
            if (!store.hasMark(i)) {
                return STOP_NO_MARK;
            }
            int operation = store.character(i);
            int length = instructionLength();
            if (!allows(operation, length)) {
                return STOP_NO_INSTRUCTION;
            }
            int formerA = a;
            takeAddresses(operation, length);
            return perform(operation, length, formerA);
        }

        private int instructionLength() {
            for (int length = 1; length <= 8 && store.has(i + length); length++) {
                if (store.hasMark(i + length)) {
                    return length;
                }
            }
            return NONE;
        }

        private static boolean allows(int operation, int length) {
            switch (operation) {
                case ADD: case SUBTRACT: case ZERO_AND_ADD: case ZERO_AND_SUBTRACT:
                case MOVE: case LOAD: case MOVE_DIGIT: case MOVE_ZONE: case COMPARE:
                case SET_MARKS: case CLEAR_MARKS: case CLEAR: case SUPPRESS_ZEROS:
                    return length == 1 || length == 4 || length == 7;
                case BRANCH:
                    return length == 1 || length == 4 || length == 5 || length == 8;
                case BRANCH_BY_POSITION:
                    return length == 8;
                case READ: case PRINT: case PUNCH:
                    return length == 1 || length == 2 || length == 4 || length == 5;
                case STORE_A: case STORE_B:
                    return length == 4;
                case NO_OPERATION:
                    return length != NONE && length != 3 && length != 6;
                case HALT:
                    return length == 1 || length == 4;
                default:
                    return false;
            }
        }

        private void takeAddresses(int operation, int length) {
            if (length >= 4) {
                a = store.address(i + 1);
            }
            if (length >= 7) {
                b = store.address(i + 4);
            } else if (length >= 4 && !keepsB(operation)) {
                b = a;
            }
            i += length;
        }

        private static boolean keepsB(int operation) {
            switch (operation) {
                case MOVE: case LOAD: case MOVE_DIGIT: case MOVE_ZONE: case STORE_A: case STORE_B:
                    return true;
                default:
                    return false;
            }
        }

        private int perform(int operation, int length, int formerA) {
            switch (operation) {
                case ADD: return calculate(false, false);
                case SUBTRACT: return calculate(false, true);
                case ZERO_AND_ADD: return calculate(true, false);
                case ZERO_AND_SUBTRACT: return calculate(true, true);
                case MOVE: return move();
                case LOAD: return load();
                case MOVE_DIGIT: return moveBits(DIGIT_BITS);
                case MOVE_ZONE: return moveBits(ZONE_BITS);
                case COMPARE: return compare();
                case SET_MARKS: return changeMarks(true);
                case CLEAR_MARKS: return changeMarks(false);
                case CLEAR: return clear(length == 7);
                case SUPPRESS_ZEROS: return suppressZeros();
                case BRANCH: return branch(length);
                case BRANCH_BY_POSITION: return branchByPosition();
                case READ: return readCard(length >= 4);
                case PRINT: return fillRow(lines, PRINT_AREA, LINE_WIDTH, length >= 4);
                case PUNCH: return fillRow(punches, PUNCH_AREA, CARD_WIDTH, length >= 4);
                case STORE_A: return storeAddress(formerA);
                case STORE_B: return storeAddress(b);
                case HALT: return halt(length == 4);
                default: return GOES_ON;
            }
        }

        /** With an address A holds it by now, so that going there changes I and A round. */
        private void goThere() {
            int behind = i;
            i = a;
            a = behind;
        }

        /** The last character of the instruction that is being done: I is behind it. */
        private int modifier() {
            return store.character(i - 1);
        }

        private int calculate(boolean fromZero, boolean turned) {
            int length = store.fieldLength(b);
            int part = store.fieldLength(a, length);
            if (length == NONE || part == NONE) {
                return STOP_NO_POSITION;
            }
            boolean minus = store.isMinus(a) != turned;
            arithmetic.readDigits(a, part, length);
            if (fromZero) {
                arithmetic.replace(b, length);
                store.writeZone(b, signZone(minus));
            } else {
                addSigned(length, minus);
            }
            a -= part;
            b -= length;
            return GOES_ON;
        }

        private void addSigned(int length, boolean minus) {
            boolean minusB = store.isMinus(b);
            if (minus == minusB) {
                overflow = arithmetic.add(b, length) || overflow;
            } else {
                boolean greater = arithmetic.isGreater(b, length);
                arithmetic.subtract(b, length, greater);
                store.writeZone(b, signZone(greater ? minus : minusB));
            }
        }

        private int move() {
            int length = store.commonLength(a, b);
            if (length == NONE) {
                return STOP_NO_POSITION;
            }
            for (int k = 0; k < length; k++) {
                store.write(b - k, store.character(a - k));
            }
            a -= length;
            b -= length;
            return GOES_ON;
        }

        private int load() {
            int length = store.fieldLength(a);
            if (length == NONE || !store.hasSpan(b, length)) {
                return STOP_NO_POSITION;
            }
            store.copySpan(a, b, length);
            a -= length;
            b -= length;
            return GOES_ON;
        }

        private int moveBits(int bits) {
            if (!store.has(a) || !store.has(b)) {
                return STOP_NO_POSITION;
            }
            store.write(b, (store.character(b) & ~bits) | (store.character(a) & bits));
            a--;
            b--;
            return GOES_ON;
        }

        private int compare() {
            int length = store.commonLength(a, b);
            if (length == NONE) {
                return STOP_NO_POSITION;
            }
            comparison = store.hasMark(b - length + 1) ? orderOf(length) : 1;
            a -= length;
            b -= length;
            return GOES_ON;
        }

        private int orderOf(int length) {
            for (int k = length - 1; k >= 0; k--) {
                int order = Integer.compare(rank(store.character(b - k)), rank(store.character(a - k)));
                if (order != 0) {
                    return order;
                }
            }
            return 0;
        }

        private static int rank(int character) {
            int digits = character & DIGIT_BITS;
            boolean special = digits == 0 || digits > ZERO;
            int within = digits == ZERO ? 0 : digits;
            int byZone = ZONE_BITS - (character & ZONE_BITS);
            return (special ? 0 : CHARACTERS) + byZone + within;
        }

        private int changeMarks(boolean mark) {
            if (!store.has(a) || !store.has(b)) {
                return STOP_NO_POSITION;
            }
            store.mark(a, mark);
            store.mark(b, mark);
            a--;
            b--;
            return GOES_ON;
        }

        private int clear(boolean goes) {
            if (!store.has(b)) {
                return STOP_NO_POSITION;
            }
            int last = b - b % 100;
            for (int position = b; position >= last; position--) {
                store.place(position, BLANK, false);
            }
            b = last - 1;
            if (goes) {
                goThere();
            }
            return GOES_ON;
        }

        private int suppressZeros() {
            int length = store.fieldLength(a);
            if (length == NONE || !store.hasSpan(b, length)) {
                return STOP_NO_POSITION;
            }
            store.write(b, store.character(a) & DIGIT_BITS);
            for (int k = 1; k < length; k++) {
                store.write(b - k, store.character(a - k));
            }
            for (int k = length - 1; k >= 0 && isSuppressed(store.character(b - k)); k--) {
                store.write(b - k, BLANK);
            }
            a -= length;
            b++;
            return GOES_ON;
        }

        private static boolean isSuppressed(int character) {
            return character == ZERO || character == BLANK || character == COMMA;
        }

        private int branch(int length) {
            if (length == 8 && !store.has(b)) {
                return STOP_NO_POSITION;
            }
            boolean goes = true;
            if (length == 5) {
                goes = isIndicated(modifier());
            } else if (length == 8) {
                goes = store.character(b) == modifier();
                b--;
            }
            if (goes) {
                goThere();
            }
            return GOES_ON;
        }

        private boolean isIndicated(int modifier) {
            switch (modifier) {
                case 0: return true;
                case 17: return comparison != 0;
                case 18: return comparison == 0;
                case 19: return comparison < 0;
                case 20: return comparison > 0;
                case 25: return takeOverflow();
                case 49: return lastCard;
                default: return false;
            }
        }

        private boolean takeOverflow() {
            boolean was = overflow;
            overflow = false;
            return was;
        }

        private int branchByPosition() {
            if (!store.has(b)) {
                return STOP_NO_POSITION;
            }
            boolean goes = isAsAsked(b, modifier());
            b--;
            if (goes) {
                goThere();
            }
            return GOES_ON;
        }

        private boolean isAsAsked(int position, int modifier) {
            boolean zoneAsked = store.zone(position) == (modifier & ZONE_BITS);
            switch (modifier) {
                case 1:
                    return store.hasMark(position);
                case 2: case 50: case 34: case 18:
                    return zoneAsked;
                case 3: case 51: case 35: case 19:
                    return store.hasMark(position) || zoneAsked;
                default:
                    return false;
            }
        }

        private int readCard(boolean goes) {
            if (cardsToRead() == 0) {
                return STOP_NO_CARD;
            }
            for (int column = 1; column <= CARD_WIDTH; column++) {
                store.write(READ_AREA + column - 1, cards.character(cardsRead, column));
            }
            cardsRead++;
            lastCard = cardsToRead() == 0;
            endTransfer(READ_AREA + CARD_WIDTH, goes);
            return GOES_ON;
        }

        private int fillRow(Pile pile, int area, int width, boolean goes) {
            if (pile.isFull()) {
                return STOP_PILE_FULL;
            }
            pile.copy(store, area);
            endTransfer(area + width, goes);
            return GOES_ON;
        }

        private void endTransfer(int behindArea, boolean goes) {
            b = behindArea;
            if (goes) {
                goThere();
            }
        }

        private int storeAddress(int address) {
            if (!store.hasSpan(a, 3)) {
                return STOP_NO_POSITION;
            }
            store.writeAddress(a, Math.floorMod(address, ADDRESSES));
            a -= 3;
            return GOES_ON;
        }

        private int halt(boolean goes) {
            if (goes) {
                goThere();
            }
            return STOP_HALT;
        }
    }
}
