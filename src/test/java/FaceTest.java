import java.lang.reflect.Constructor;
import java.lang.reflect.Field;
import java.lang.reflect.Member;
import java.lang.reflect.Method;
import java.lang.reflect.Modifier;
import java.util.Arrays;
import java.util.TreeSet;

/** The public face, and promises 1 to 6, 8 to 10, 13 and 14 as far as they need no program. */
public final class FaceTest {
    private static final Due DUE = new Due();

    public static void main(String[] args) {
        faceIsTheDocuments();
        newObject();
        newObjectSizes();
        setPlacesOne();
        setRefuses();
        putPlacesSome();
        putEndsAtAByteAbove();
        putRefuses();
        columnAndCard();
        cardRefuses();
        startTakesPositions();
        runRefuses();
        lookingOutside();
        stateAndCountOfOthers();
        numbers();
        numbersRefused();
        DUE.end();
    }

    private static void faceIsTheDocuments() {
        Class<?> c = CharMachine.class;
        DUE.same("class modifiers", Modifier.PUBLIC | Modifier.FINAL, c.getModifiers());
        TreeSet<String> due = new TreeSet<>(Arrays.asList(
            "public static final int NONE",
            "public CharMachine(int)",
            "public boolean set(int,int,boolean)",
            "public int put(int,long,int) throws java.lang.IllegalArgumentException",
            "public boolean column(int,int)",
            "public int card() throws java.lang.IllegalStateException",
            "public boolean start(int)",
            "public int run(int) throws java.lang.IllegalArgumentException",
            "public int at(int) throws java.lang.IndexOutOfBoundsException",
            "public boolean isMarked(int) throws java.lang.IndexOutOfBoundsException",
            "public int state(int)",
            "public int printed(int,int) throws java.lang.IndexOutOfBoundsException",
            "public int punched(int,int) throws java.lang.IndexOutOfBoundsException",
            "public long number(int) throws java.lang.IndexOutOfBoundsException,"
                + "java.lang.UnsupportedOperationException",
            "public int count(int)"));
        TreeSet<String> got = new TreeSet<>();
        for (Field f : c.getDeclaredFields()) {
            addVisible(got, f, f.toGenericString());
        }
        for (Constructor<?> k : c.getDeclaredConstructors()) {
            addVisible(got, k, k.toGenericString());
        }
        for (Method m : c.getDeclaredMethods()) {
            addVisible(got, m, m.toGenericString());
        }
        DUE.yes("the face " + got, got.equals(due));
        DUE.same("NONE", -1, CharMachine.NONE);
    }

    private static void addVisible(TreeSet<String> to, Member member, String text) {
        if (!Modifier.isPrivate(member.getModifiers())) {
            to.add(text.replace("CharMachine.", ""));
        }
    }

    private static void newObject() {
        CharMachine x = new CharMachine(500);
        for (int what = 0; what < 8; what++) {
            DUE.same("new: state(" + what + ")", 0, x.state(what));
        }
        DUE.same("new: state(8)", 500, x.state(8));
        for (int what = 0; what < 4; what++) {
            DUE.same("new: count(" + what + ")", 0, x.count(what));
        }
        for (int p = 0; p < 500; p += 3) {
            DUE.same("new: at(" + p + ")", 0, x.at(p));
            DUE.no("new: isMarked(" + p + ")", x.isMarked(p));
        }
    }

    private static void newObjectSizes() {
        int[][] sizes = {{400, 400}, {401, 401}, {1999, 1999}, {2000, 2000}, {399, 1400}, {2001, 1400},
            {0, 1400}, {-1, 1400}, {Integer.MIN_VALUE, 1400}, {Integer.MAX_VALUE, 1400}};
        for (int[] s : sizes) {
            CharMachine x = new CharMachine(s[0]);
            DUE.same("size " + s[0], s[1], x.state(8));
            DUE.yes("size " + s[0] + ": the last one", x.set(s[1] - 1, 1, true));
            DUE.no("size " + s[0] + ": one more", x.set(s[1], 1, true));
        }
    }

    private static void setPlacesOne() {
        int[] positions = {0, 1, 398, 399};
        for (int p : positions) {
            CharMachine y = new CharMachine(400);
            for (int character = 0; character < 64; character++) {
                DUE.yes("set", y.set(p, character, (character & 1) == 0));
                DUE.same("set, at", character, y.at(p));
                DUE.same("set, mark", (character & 1) == 0 ? 1 : 0, y.isMarked(p) ? 1 : 0);
            }
            DUE.same("set, none marked", 0, y.count(3));
        }
        CharMachine x = new CharMachine(400);
        x.set(0, 3, true);
        x.set(399, 3, true);
        x.set(0, 3, true);
        DUE.same("set, two marked", 2, x.count(3));
        x.set(0, 3, false);
        DUE.same("set, one marked", 1, x.count(3));
        DUE.same("set, beside it", 0, x.at(2));
    }

    private static void setRefuses() {
        CharMachine x = new CharMachine(400);
        x.set(0, 9, false);
        int[][] wrong = {{-1, 1}, {400, 1}, {0, -1}, {0, 64}, {Integer.MAX_VALUE, 1}, {Integer.MIN_VALUE, 1},
            {0, Integer.MAX_VALUE}, {0, Integer.MIN_VALUE}, {-1, 64}};
        for (int[] w : wrong) {
            DUE.no("set(" + w[0] + ", " + w[1] + ")", x.set(w[0], w[1], true));
        }
        DUE.same("set refused, at(0)", 9, x.at(0));
        DUE.same("set refused, marks", 0, x.count(3));
    }

    private static void putPlacesSome() {
        CharMachine x = new CharMachine(400);
        for (int p = 0; p < 20; p++) {
            x.set(p, 50, true);
        }
        DUE.same("put of eight", 8, x.put(2, 0x00013F0A_10203000L, 0xFFFFFF95));
        int[] due = {0, 1, 63, 10, 16, 32, 48, 0};
        for (int k = 0; k < 8; k++) {
            DUE.same("put, at " + k, due[k], x.at(2 + k));
            DUE.same("put, mark " + k, 0x95 >> k & 1, x.isMarked(2 + k) ? 1 : 0);
        }
        DUE.same("put, ahead of it", 50, x.at(1));
        DUE.same("put, behind it", 50, x.at(10));
        DUE.yes("put, mark behind it", x.isMarked(10));
        DUE.same("put at the end", 8, x.put(392, 0x0101010101010101L, 128));
        DUE.yes("put at the end, mark", x.isMarked(399));
        DUE.same("put at the start", 8, x.put(0, 0x0202020202020202L, 0));
        DUE.same("put at the start, at(0)", 2, x.at(0));
        DUE.no("put at the start, no mark", x.isMarked(0));
    }

    private static void putEndsAtAByteAbove() {
        int[] above = {64, 127, 128, 255};
        for (int high : above) {
            for (int n = 0; n < 8; n++) {
                CharMachine x = new CharMachine(400);
                long bytes = 0x0102030405060708L & ~(255L << 56 - 8 * n) | (long) high << 56 - 8 * n;
                DUE.same("put up to " + high, n, x.put(399 - n, bytes, 255));
                DUE.same("put up to " + high + ", marks", n, x.count(3));
                DUE.same("put up to " + high + ", behind", 0, x.at(399));
            }
        }
    }

    private static void putRefuses() {
        CharMachine x = new CharMachine(400);
        int[] wrong = {-1, -8, 393, 399, 400, Integer.MAX_VALUE, Integer.MAX_VALUE - 7, Integer.MIN_VALUE};
        for (int at : wrong) {
            DUE.fails("put at " + at, IllegalArgumentException.class,
                () -> x.put(at, 0x0101010101010101L, 255));
        }
        DUE.fails("put of one", IllegalArgumentException.class, () -> x.put(400, 0x01FFFFFFFFFFFFFFL, 1));
        DUE.fails("put of one", IllegalArgumentException.class, () -> x.put(-1, 0x01FFFFFFFFFFFFFFL, 1));
        DUE.same("put refused, marks", 0, x.count(3));
        DUE.same("put of one at the end", 1, x.put(399, 0x01FFFFFFFFFFFFFFL, 1));
        DUE.same("put of none behind the end", 0, x.put(400, -1L, 255));
        DUE.same("put of none nowhere", 0, x.put(-7, -1L, 255));
    }

    private static void columnAndCard() {
        CharMachine x = new CharMachine(400);
        int[][] wrong = {{0, 1}, {81, 1}, {-1, 1}, {1, -1}, {1, 64}, {Integer.MAX_VALUE, 0},
            {Integer.MIN_VALUE, 0}, {80, Integer.MAX_VALUE}, {80, Integer.MIN_VALUE}};
        for (int[] w : wrong) {
            DUE.no("column(" + w[0] + ", " + w[1] + ")", x.column(w[0], w[1]));
        }
        for (int column = 1; column <= 80; column++) {
            DUE.yes("column " + column, x.column(column, column % 64));
        }
        DUE.same("no card yet", 0, x.count(0));
        for (int n = 1; n <= 20; n++) {
            DUE.same("card", n, x.card());
            DUE.same("cards to be read", n, x.count(0));
        }
    }

    private static void cardRefuses() {
        CharMachine x = new CharMachine(400);
        for (int n = 1; n <= 20; n++) {
            x.card();
        }
        DUE.fails("card 21", IllegalStateException.class, x::card);
        DUE.yes("column behind the last card", x.column(80, 63));
        DUE.fails("card 21 again", IllegalStateException.class, x::card);
        DUE.same("cards to be read", 20, x.count(0));
        x.set(0, Op.READ, true);
        x.set(1, 0, true);
        for (int n = 19; n >= 0; n--) {
            x.start(0);
            x.run(1);
            DUE.same("cards left", n, x.count(0));
            DUE.fails("20 in all", IllegalStateException.class, x::card);
        }
    }

    private static void startTakesPositions() {
        CharMachine x = new CharMachine(400);
        int[] right = {399, 0, 17};
        for (int at : right) {
            DUE.yes("start(" + at + ")", x.start(at));
            DUE.same("start(" + at + "), I", at, x.state(0));
        }
        int[] wrong = {-1, 400, Integer.MAX_VALUE, Integer.MIN_VALUE};
        for (int at : wrong) {
            DUE.no("start(" + at + ")", x.start(at));
            DUE.same("start(" + at + "), I", 17, x.state(0));
        }
    }

    private static void runRefuses() {
        CharMachine x = new CharMachine(400);
        DUE.same("a run", 1, x.run(20000));
        int[] wrong = {0, -1, 20001, Integer.MAX_VALUE, Integer.MIN_VALUE};
        for (int steps : wrong) {
            DUE.fails("run(" + steps + ")", IllegalArgumentException.class, () -> x.run(steps));
        }
        DUE.same("run refused, steps", 1, x.state(6));
        DUE.same("run refused, answer", 1, x.state(7));
    }

    private static void lookingOutside() {
        CharMachine x = new CharMachine(400);
        int[] wrong = {-1, 400, Integer.MAX_VALUE, Integer.MIN_VALUE};
        for (int p : wrong) {
            DUE.fails("at(" + p + ")", IndexOutOfBoundsException.class, () -> x.at(p));
            DUE.fails("isMarked(" + p + ")", IndexOutOfBoundsException.class, () -> x.isMarked(p));
            DUE.fails("number(" + p + ")", IndexOutOfBoundsException.class, () -> x.number(p));
        }
    }

    private static void stateAndCountOfOthers() {
        CharMachine x = new CharMachine(400);
        int[] wrong = {-1, 9, 10, Integer.MAX_VALUE, Integer.MIN_VALUE};
        for (int what : wrong) {
            DUE.same("state(" + what + ")", CharMachine.NONE, x.state(what));
            DUE.same("count(" + what + ")", CharMachine.NONE, x.count(what));
        }
        DUE.same("count(4)", CharMachine.NONE, x.count(4));
    }

    private static void numbers() {
        Bench x = new Bench(DUE, "numbers", 400);
        x.digits(5, "012345", 0).number(5, 12345);
        x.digits(5, "012345", 32).number(5, -12345);
        x.digits(5, "012345", 48).number(5, 12345);
        x.digits(5, "012345", 16).number(5, 12345);
        x.number(4, 1234).number(0, 0);
        x.digits(5, "0", 32).number(5, 0);
        x.field(399, 7).number(399, 7);
        x.field(20, 0, 63, 28, 13, 30).number(20, 5234);
        x.field(20, 32 + 1, 48 + 2, 16 + 3).number(20, 123);
        x.digits(40, "999999999999999999", 32).number(40, -999999999999999999L);
    }

    private static void numbersRefused() {
        Bench x = new Bench(DUE, "numbers refused", 400);
        DUE.fails("number without a mark", IndexOutOfBoundsException.class, () -> x.machine.number(0));
        DUE.fails("number without a mark", IndexOutOfBoundsException.class, () -> x.machine.number(17));
        DUE.fails("number without a mark", IndexOutOfBoundsException.class, () -> x.machine.number(399));
        x.digits(40, "0000000000000000001", 0);
        DUE.fails("number of 19", UnsupportedOperationException.class, () -> x.machine.number(40));
        DUE.fails("number of many", UnsupportedOperationException.class, () -> x.machine.number(399));
        x.number(39, 0);
        DUE.fails("number ahead of all marks", IndexOutOfBoundsException.class, () -> x.machine.number(21));
    }
}
