/** Promise 7: C. */
public final class CompareTest {
    private static final Due DUE = new Due();

    /** All characters, the lowest first: specials by zones BA, B, A, none, then the others. */
    private static final int[] ORDER = {
        48, 59, 60, 61, 62, 63, 32, 43, 44, 45, 46, 47, 16, 27, 28, 29, 30, 31, 0, 11, 12, 13, 14, 15,
        58, 49, 50, 51, 52, 53, 54, 55, 56, 57, 42, 33, 34, 35, 36, 37, 38, 39, 40, 41,
        26, 17, 18, 19, 20, 21, 22, 23, 24, 25, 10, 1, 2, 3, 4, 5, 6, 7, 8, 9};

    public static void main(String[] args) {
        order();
        leftmostDecides();
        lengths();
        registers();
        DUE.end();
    }

    private static void order() {
        DUE.same("the order has all", 64, ORDER.length);
        for (int a = 0; a < 64; a++) {
            for (int b = 0; b < 64; b++) {
                new Bench(DUE, "order of " + ORDER[a] + " " + ORDER[b])
                    .field(605, ORDER[a]).field(625, ORDER[b])
                    .seven(0, Op.COMPARE, 605, 625).state(3, Integer.compare(b, a));
            }
        }
    }

    private static void leftmostDecides() {
        Bench x = new Bench(DUE, "leftmost").field(605, 5, 1, 9).field(625, 5, 2, 1);
        x.seven(0, Op.COMPARE, 605, 625).state(3, 1).a(602).b(622).i(707);
        x.seven(0, Op.COMPARE, 625, 605).state(3, -1).a(622).b(602);
        x.field(605, 5, 2, 1).seven(0, Op.COMPARE, 605, 625).state(3, 0);
        x.plain(606, 1).plain(626, 2).seven(0, Op.COMPARE, 605, 625).state(3, 0);
        x.is(605, 5, 2, 1).is(625, 5, 2, 1).marks("100", 605).marks("100", 625);
    }

    private static void lengths() {
        Bench x = new Bench(DUE, "B longer").field(605, 9, 9).field(625, 1, 1, 1);
        x.seven(0, Op.COMPARE, 605, 625).state(3, 1).a(603).b(623);
        x.field(625, 1, 9, 9).seven(0, Op.COMPARE, 605, 625).state(3, 1);
        Bench y = new Bench(DUE, "A longer").field(605, 1, 9, 9).field(625, 9, 9);
        y.seven(0, Op.COMPARE, 605, 625).state(3, 0).a(603).b(623);
        y.field(625, 8, 9).seven(0, Op.COMPARE, 605, 625).state(3, -1);
        y.field(605, 1, 7, 9).seven(0, Op.COMPARE, 605, 625).state(3, 1);
    }

    private static void registers() {
        Bench x = new Bench(DUE, "C chained").field(603, 1, 2).field(605, 3, 4);
        x.field(623, 1, 3).field(625, 3, 4).seven(0, Op.COMPARE, 605, 625).state(3, 0);
        x.one(0, Op.COMPARE).state(3, 1).a(601).b(621);
        x.seven(2, Op.COMPARE, 605, 1400).state(3, 1);
        x.four(0, Op.COMPARE, 605).state(3, 0).a(603).b(603);
    }
}
