import java.math.BigInteger;
import java.util.Random;

/** Promise 7: A, S, ? and !. */
public final class ArithmeticTest {
    private static final Due DUE = new Due();
    private static final int B = 32;
    private static final int BA = 48;
    private static final int A = 16;

    public static void main(String[] args) {
        signsAlike();
        overflow();
        signsNotAlike();
        shorterAndLonger();
        zonesAndOddDigits();
        fieldWithItself();
        overlap();
        chained();
        marksStay();
        zeroAndAdd();
        longFields();
        randomSums();
        DUE.end();
    }

    private static Bench bench(String name, String a, int zoneA, String b, int zoneB) {
        return new Bench(DUE, name).digits(605, a, zoneA).digits(625, b, zoneB);
    }

    private static void signsAlike() {
        bench("plus plus", "123", 0, "456", 0).seven(0, Op.ADD, 605, 625)
            .is(625, 5, 7, 9).a(602).b(622).state(4, 0).i(707).is(605, 1, 2, 3);
        bench("plus plus, BA stays", "123", 0, "456", BA).seven(0, Op.ADD, 605, 625).is(625, 5, 7, BA + 9);
        bench("plus plus, A stays", "123", BA, "456", A).seven(0, Op.ADD, 605, 625).is(625, 5, 7, A + 9);
        bench("plus plus, none stays", "123", A, "447", 0).seven(0, Op.ADD, 605, 625).is(625, 5, 7, 10);
        bench("minus minus", "123", B, "457", B).seven(0, Op.ADD, 605, 625).is(625, 5, 8, B + 10);
        bench("S of a minus", "123", B, "456", A).seven(0, Op.SUBTRACT, 605, 625).is(625, 5, 7, A + 9);
        bench("S from a minus", "123", 0, "456", B).seven(0, Op.SUBTRACT, 605, 625).is(625, 5, 7, B + 9);
    }

    private static void overflow() {
        Bench x = bench("overflow", "1", 0, "999", A).seven(0, Op.ADD, 605, 625);
        x.is(625, 10, 10, A + 10).state(4, 1).a(604).b(622);
        x.digits(625, "1", 0).seven(0, Op.ADD, 605, 625).is(625, 2).state(4, 1);
        bench("overflow of minus", "999", B, "999", B).seven(0, Op.ADD, 605, 625)
            .is(625, 9, 9, B + 8).state(4, 1);
        bench("no overflow by what is not looked at", "999", 0, "0", 0).seven(0, Op.ADD, 605, 625)
            .is(625, 9).state(4, 0);
        bench("no overflow of a difference", "1", B, "0", 0).seven(0, Op.ADD, 605, 625)
            .is(625, B + 1).state(4, 0);
    }

    private static void signsNotAlike() {
        bench("B greater", "123", B, "456", 0).seven(0, Op.ADD, 605, 625).is(625, 3, 3, BA + 3).state(4, 0);
        bench("A greater", "456", B, "123", 0).seven(0, Op.ADD, 605, 625).is(625, 3, 3, B + 3);
        bench("A greater, plus", "456", 0, "123", B).seven(0, Op.ADD, 605, 625).is(625, 3, 3, BA + 3);
        bench("B greater, minus", "123", 0, "456", B).seven(0, Op.ADD, 605, 625).is(625, 3, 3, B + 3);
        bench("the same, B plus", "456", B, "456", A).seven(0, Op.ADD, 605, 625).is(625, 10, 10, BA + 10);
        bench("the same, B minus", "456", 0, "456", B).seven(0, Op.ADD, 605, 625).is(625, 10, 10, B + 10);
        bench("S, B greater", "123", 0, "500", 0).seven(0, Op.SUBTRACT, 605, 625)
            .is(625, 3, 7, BA + 7).a(602).b(622);
        bench("S, A greater", "500", 0, "123", 0).seven(0, Op.SUBTRACT, 605, 625).is(625, 3, 7, B + 7);
        bench("S, both minus", "500", B, "123", B).seven(0, Op.SUBTRACT, 605, 625).is(625, 3, 7, BA + 7);
        bench("borrows", "1", B, "1000", 0).seven(0, Op.ADD, 605, 625).is(625, 10, 9, 9, BA + 9);
        bench("the leftmost decides", "109", B, "190", 0).seven(0, Op.ADD, 605, 625).is(625, 10, 8, BA + 1);
    }

    private static void shorterAndLonger() {
        bench("shorter", "7", 0, "1234", 0).seven(0, Op.ADD, 605, 625).is(625, 1, 2, 4, 1).a(604).b(621);
        bench("longer", "12345", 0, "10", 0).seven(0, Op.ADD, 605, 625).is(625, 5, 5).a(603).b(623);
        bench("longer, not alike", "99901", B, "10", 0).seven(0, Op.ADD, 605, 625)
            .is(625, 10, BA + 9).a(603).b(623).is(623, 0);
        // A's field need not end inside the store where it is longer than B's.
        Bench x = new Bench(DUE, "A has no left end").plain(1, 4, 5).digits(625, "21", 0);
        x.seven(0, Op.ADD, 1, 625).is(625, 6, 6).a(-1).b(623);
        x.digits(625, "021", 0).seven(2, Op.ADD, 1, 625).is(625, 10, 2, 1);
    }

    private static void zonesAndOddDigits() {
        Bench x = new Bench(DUE, "odd digits").field(605, 0, 48 + 11, 15).field(625, 32 + 13, 16, 14);
        x.seven(0, Op.ADD, 605, 625).is(625, 3, 1, 9);
        x.field(605, 0).field(625, 0, 48 + 9, 16).seven(0, Op.ADD, 605, 625).is(625, 10, 9, 16 + 10);
        x.field(605, 0).field(625, 63, 48 + 9, B + 12).seven(0, Op.ADD, 605, 625).is(625, 5, 9, B + 2);
        x.field(605, 0).field(625, 0).seven(0, Op.SUBTRACT, 605, 625).is(625, BA + 10);
    }

    private static void fieldWithItself() {
        new Bench(DUE, "doubled").digits(605, "0456", B).four(0, Op.ADD, 605)
            .is(605, 10, 9, 1, B + 2).a(601).b(601).i(704);
        new Bench(DUE, "taken from itself").digits(605, "0456", B).four(0, Op.SUBTRACT, 605)
            .is(605, 10, 10, 10, B + 10).a(601).b(601);
        new Bench(DUE, "taken from itself").digits(605, "0456", 0).four(0, Op.SUBTRACT, 605)
            .is(605, 10, 10, 10, BA + 10);
        new Bench(DUE, "? of itself").field(605, 0, 48 + 4, 11).four(0, Op.ZERO_ADD, 605)
            .is(605, 10, 4, BA + 1).a(602).b(602);
        new Bench(DUE, "! of itself").digits(605, "45", B).four(0, Op.ZERO_SUBTRACT, 605).is(605, 4, BA + 5);
    }

    /** What is read is read before the field at B changes. */
    private static void overlap() {
        new Bench(DUE, "A one left of B").digits(605, "1289", 0).seven(0, Op.ADD, 604, 605)
            .is(605, 1, 4, 1, 7).a(601).b(601);
        new Bench(DUE, "A one right of B").digits(605, "1289", 0).seven(0, Op.ADD, 605, 604)
            .is(605, 4, 1, 7, 9).a(602).b(601).state(4, 0);
        new Bench(DUE, "? one right of B").digits(605, "1289", B).seven(0, Op.ZERO_ADD, 605, 604)
            .is(605, 2, 8, B + 9, B + 9).a(602).b(601);
        new Bench(DUE, "? one left of B").digits(605, "1289", B).seven(0, Op.ZERO_ADD, 604, 605)
            .is(605, 10, 1, 2, BA + 8).a(601).b(601);
        new Bench(DUE, "the sign of A is in B").digits(605, "1289", 0).plain(604, B + 8)
            .seven(0, Op.ADD, 604, 605).is(605, 1, 1, 6, BA + 1);
    }

    private static void chained() {
        Bench x = new Bench(DUE, "chained").digits(603, "12", 0).digits(605, "34", 0);
        x.digits(623, "10", 0).digits(625, "20", 0).seven(0, Op.ADD, 605, 625).is(625, 5, 4);
        x.one(0, Op.ADD).is(623, 2, 2).a(601).b(621).i(701);
    }

    private static void marksStay() {
        for (int operation : new int[] {Op.ADD, Op.SUBTRACT, Op.ZERO_ADD, Op.ZERO_SUBTRACT}) {
            bench("marks", "12", 0, "345", 0).seven(0, operation, 605, 625)
                .marks("00100", 625).marks("00010", 605).is(622, 0);
        }
    }

    private static void zeroAndAdd() {
        bench("? plus", "123", 0, "999", B).seven(0, Op.ZERO_ADD, 605, 625).is(625, 1, 2, BA + 3).a(602).b(622);
        bench("? A alone", "120", A, "999", 0).seven(0, Op.ZERO_ADD, 605, 625).is(625, 1, 2, BA + 10);
        bench("? minus", "123", B, "999", 0).seven(0, Op.ZERO_ADD, 605, 625).is(625, 1, 2, B + 3);
        bench("! plus", "123", 0, "999", 0).seven(0, Op.ZERO_SUBTRACT, 605, 625).is(625, 1, 2, B + 3);
        bench("! minus", "123", B, "999", 0).seven(0, Op.ZERO_SUBTRACT, 605, 625).is(625, 1, 2, BA + 3);
        bench("? shorter", "7", B, "9999", 0).seven(0, Op.ZERO_ADD, 605, 625)
            .is(625, 10, 10, 10, B + 7).a(604).b(621);
        bench("! longer", "12345", B, "99", 0).seven(0, Op.ZERO_SUBTRACT, 605, 625)
            .is(625, 4, BA + 5).a(603).b(623).state(4, 0);
        new Bench(DUE, "? of zones").field(605, 63, B, 13).field(625, 1, 1, 1)
            .seven(0, Op.ZERO_ADD, 605, 625).is(625, 5, 10, BA + 3);
        Bench x = new Bench(DUE, "? chained").digits(603, "12", B).digits(605, "34", 0);
        x.digits(623, "10", 0).digits(625, "20", 0).registers(605, 625);
        x.one(0, Op.ZERO_ADD).one(0, Op.ZERO_SUBTRACT).is(625, 1, BA + 2, 3, BA + 4);
    }

    private static void longFields() {
        Bench x = new Bench(DUE, "long", 2000);
        for (int from = 0; from < 584; from += 8) {
            x.machine.put(716 + from, 0x0909090909090909L, from == 0 ? 1 : 0);
            x.machine.put(1416 + from, 0x0909090909090909L, from == 0 ? 1 : 0);
        }
        x.seven(0, Op.ADD, 1299, 1999).a(715).b(1415).state(4, 1).is(1999, 9, 9, 8).is(1417, 9, 9).is(1415, 0);
    }

    private static void randomSums() {
        Random random = new Random(602);
        int[] zones = {0, A, B, BA};
        for (int n = 0; n < 4000; n++) {
            String a = randomDigits(random, 1 + random.nextInt(25));
            String b = randomDigits(random, 1 + random.nextInt(25));
            int zoneA = zones[random.nextInt(4)];
            int zoneB = zones[random.nextInt(4)];
            boolean minus = random.nextBoolean();
            Bench x = new Bench(DUE, (minus ? "S " : "A ") + a + " " + zoneA + " " + b + " " + zoneB);
            x.digits(605, a, zoneA).digits(640, b, zoneB);
            x.seven(0, minus ? Op.SUBTRACT : Op.ADD, 605, 640);
            x.a(605 - Math.min(a.length(), b.length())).b(640 - b.length());
            checkSum(x, part(a, b.length()), minus != (zoneA == B), b, zoneB);
        }
    }

    private static String randomDigits(Random random, int length) {
        StringBuilder digits = new StringBuilder();
        for (int k = 0; k < length; k++) {
            digits.append((char) ('0' + (random.nextInt(3) == 0 ? 9 * random.nextInt(2) : random.nextInt(10))));
        }
        return digits.toString();
    }

    private static String part(String digits, int most) {
        return digits.substring(Math.max(0, digits.length() - most));
    }

    private static void checkSum(Bench x, String a, boolean minusA, String b, int zoneB) {
        boolean minusB = zoneB == B;
        BigInteger p = new BigInteger(a);
        BigInteger q = new BigInteger(b);
        BigInteger sum = (minusA ? p.negate() : p).add(minusB ? q.negate() : q);
        BigInteger limit = BigInteger.TEN.pow(b.length());
        x.state(4, sum.abs().compareTo(limit) >= 0 ? 1 : 0);
        String text = sum.abs().mod(limit).toString();
        String digits = "0".repeat(b.length() - text.length()) + text;
        boolean minus = sum.signum() == 0 ? minusB : sum.signum() < 0;
        int zone = minusA == minusB ? zoneB : minus ? B : BA;
        int[] due = new int[digits.length()];
        for (int k = 0; k < due.length; k++) {
            due[k] = Bench.digit(digits.charAt(k) - '0') | (k == due.length - 1 ? zone : 0);
        }
        x.is(640, due);
    }
}
