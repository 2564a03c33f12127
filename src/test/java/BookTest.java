/** Promises 19 to 24: owe, owes, net, plan, payment, clear. */
public final class BookTest {
    private static final Due due = new Due("BookTest");

    public static void main(String[] args) {
        owe();
        oweFull();
        owes();
        net();
        planOfGroups();
        planOfSeveralPartings();
        planAfterChanges();
        payment();
        clear();
        clearAboveTheMost();
        oweOfHeapedDebt();
        due.end();
    }

    private static void owe() {
        ChangerFair x = new ChangerFair();
        due.is("owe", 5, x.owe(0, 9, 5));
        due.is("owe more", 1000005, x.owe(0, 9, 1000000));
        due.is("the other way", 0, x.owe(9, 0, 1000));
        due.is("owes", 999005, x.owes(0, 9));
        due.is("the other way, just as much", 0, x.owe(9, 0, 999005));
        due.is("owes", 0, x.owes(0, 9));
        due.is("owes", 0, x.owes(9, 0));
        due.is("owe", 7, x.owe(9, 0, 7));
        due.is("turns round", 3, x.owe(0, 9, 10));
        due.is("owes", 0, x.owes(9, 0));
        due.is("house 10", Due.BEYOND, x.owe(10, 0, 1));
        due.is("house -1", Due.BEYOND, x.owe(-1, 0, 1));
        due.is("other 10", Due.BEYOND, x.owe(0, 10, 1));
        due.is("other -1", Due.BEYOND, x.owe(0, -1, 1));
        due.is("the same", Due.BEYOND, x.owe(4, 4, 1));
        due.is("v 0", Due.BEYOND, x.owe(0, 1, 0));
        due.is("v -1", Due.BEYOND, x.owe(0, 1, -1));
        due.is("v 1000001", Due.BEYOND, x.owe(0, 1, 1000001));
        due.is("count(3)", 3, x.count(3));
    }

    private static void oweFull() {
        ChangerFair x = Debts.full();
        due.is("owe at the most", Due.FULL, x.owe(0, 1, 1));
        due.is("BEYOND is asked before FULL", Due.BEYOND, x.owe(0, 1, 0));
        due.is("the other way", 0, x.owe(1, 0, 10));
        due.is("up to the most and 1", Due.FULL, x.owe(0, 1, 11));
        due.is("owes", 999999990L, x.owes(0, 1));
        due.is("up to the most", 1000000000L, x.owe(0, 1, 10));
        due.is("another debt has its own room", 1000000, x.owe(0, 2, 1000000));
    }

    private static void owes() {
        ChangerFair x = new ChangerFair();
        x.owe(3, 4, 12);
        due.is("owes(3, 4)", 12, x.owes(3, 4));
        due.is("owes(4, 3)", 0, x.owes(4, 3));
        due.is("owes(3, 3)", Due.BEYOND, x.owes(3, 3));
        due.is("owes(3, 10)", Due.BEYOND, x.owes(3, 10));
        due.is("owes(10, 3)", Due.BEYOND, x.owes(10, 3));
        due.is("owes(-1, 3)", Due.BEYOND, x.owes(-1, 3));
        due.is("owes(3, -1)", Due.BEYOND, x.owes(3, -1));
    }

    private static void net() {
        ChangerFair x = new ChangerFair();
        x.owe(0, 1, 10);
        x.owe(0, 2, 5);
        x.owe(3, 0, 7);
        due.is("net(0)", -8, x.net(0));
        due.is("net(1)", 10, x.net(1));
        due.is("net(2)", 5, x.net(2));
        due.is("net(3)", -7, x.net(3));
        due.is("net(9)", 0, x.net(9));
        due.is("net(10)", Due.BEYOND, x.net(10));
        due.is("net(-1)", Due.BEYOND, x.net(-1));
    }

    /** Gives the houses these nets by debts with house 9, which ends with what makes the sum 0. */
    private static ChangerFair withNets(int... nets) {
        ChangerFair x = new ChangerFair();
        for (int house = 0; house < nets.length; house++) {
            if (nets[house] < 0) {
                x.owe(house, 9, -nets[house]);
            } else if (nets[house] > 0) {
                x.owe(9, house, nets[house]);
            }
        }
        return x;
    }

    private static void payments(String name, ChangerFair x, long groups, int[][] want) {
        due.is(name + ": plan(true)", groups, x.plan(true));
        due.is(name + ": plan(false)", want.length, x.plan(false));
        for (int i = 0; i < want.length; i++) {
            for (int what = 0; what < 3; what++) {
                due.is(name + ": payment(" + i + ", " + what + ")", want[i][what], x.payment(i, what));
            }
        }
        due.is(name + ": payment(" + want.length + ", 0)", Due.NONE, x.payment(want.length, 0));
    }

    private static void planOfGroups() {
        payments("a round of debts needs no payment", round(), 0, new int[0][]);
        payments("one pays two", withNets(-10, 4, 6), 1, new int[][] {{0, 1, 4}, {0, 2, 6}});
        payments("two pay one", withNets(5, -2, -3), 1, new int[][] {{1, 0, 2}, {2, 0, 3}});
        payments("three and three", withNets(-10, 4, 6, 9, -3, -6), 2,
                new int[][] {{0, 1, 4}, {0, 2, 6}, {4, 3, 3}, {5, 3, 6}});
        payments("groups come in order of their least houses", withNets(-1, -7, 7, 1), 2,
                new int[][] {{0, 3, 1}, {1, 2, 7}});
        payments("one group, who still owes goes on", withNets(-5, -8, 6, 7), 1,
                new int[][] {{0, 2, 5}, {1, 2, 1}, {1, 3, 7}});
        payments("ten houses in one group", withNets(-1, -2, -4, -8, -16, -32, -64, -128, -256), 1,
                new int[][] {{0, 9, 1}, {1, 9, 2}, {2, 9, 4}, {3, 9, 8}, {4, 9, 16}, {5, 9, 32},
                    {6, 9, 64}, {7, 9, 128}, {8, 9, 256}});
        payments("five pairs", withNets(1, -1, 2, -2, 4, -4, 8, -8, 16), 5,
                new int[][] {{1, 0, 1}, {3, 2, 2}, {5, 4, 4}, {7, 6, 8}, {9, 8, 16}});
    }

    private static ChangerFair round() {
        ChangerFair x = new ChangerFair();
        x.owe(0, 1, 5);
        x.owe(1, 2, 5);
        x.owe(2, 0, 5);
        return x;
    }

    private static void planOfSeveralPartings() {
        // Each of the two who owe 3 may go with each of the two who are owed 3.
        payments("pairs: the lesser as bits", withNets(-3, -3, 3, 3), 2,
                new int[][] {{0, 2, 3}, {1, 3, 3}});
        // Bits 1 + 2 + 4 = 7 are less than 1 + 8 = 9, but make one group less.
        payments("more groups go first", withNets(-6, 2, 4, 6, -4, -2), 3,
                new int[][] {{0, 3, 6}, {5, 1, 2}, {4, 2, 4}});
        // {0, 1, 3} and {0, 2, 3} and {0, 1, 2} all may be the first: 7 is the least.
        payments("least first group", withNets(-4, 2, 2, 2, -2, -2, 2), 3,
                new int[][] {{0, 1, 2}, {0, 2, 2}, {4, 3, 2}, {5, 6, 2}});
        // As bits {0, 4} is 17 and {0, 1, 2, 3} is 15, and both leave as many groups.
        payments("as bits, not as a list", withNets(-9, 3, 3, 3, 9, -9), 2,
                new int[][] {{0, 1, 3}, {0, 2, 3}, {0, 3, 3}, {5, 4, 9}});
    }

    private static void planAfterChanges() {
        ChangerFair x = withNets(-10, 10);
        due.is("plan", 1, x.plan(false));
        x.owe(2, 3, 4);
        due.is("plan behind owe", 2, x.plan(false));
        x.days(28);
        due.is("payment behind a gain", 10, x.payment(0, 2));
        x.gain(200);
        x.days(28);
        due.is("payment behind a greater gain", 12, x.payment(0, 2));
        x.coin(0, 10, 1000);
        x.purse(0, 0, 1);
        x.settle(0, 9);
        due.is("payment behind settling", 2, x.payment(0, 2));
        x.draw(0, 5, 6, 7, 3);
        x.take(0, false);
        x.days(7);
        x.pay(0);
        due.is("groups behind paying", 3, x.plan(true));
        x.draw(0, 5, 6, 7, 3);
        x.days(28);
        x.days(21);
        x.take(1, true);
        x.protest(1);
        x.recourse(1, -1);
        due.is("payments behind recourse: 2 and 1 and 2", 5, x.plan(false));
    }

    private static void payment() {
        ChangerFair x = withNets(-10, 10);
        due.is("payment(0, 0)", 0, x.payment(0, 0));
        due.is("payment(0, 1)", 1, x.payment(0, 1));
        due.is("payment(0, 2)", 10, x.payment(0, 2));
        due.is("payment(0, 3)", Due.BEYOND, x.payment(0, 3));
        due.is("payment(0, -1)", Due.BEYOND, x.payment(0, -1));
        due.is("payment(1, 0)", Due.NONE, x.payment(1, 0));
        due.is("payment(-1, 0)", Due.NONE, x.payment(-1, 0));
        due.is("payment(MAX, 2)", Due.NONE, x.payment(Integer.MAX_VALUE, 2));
        due.is("BEYOND is asked before NONE", Due.BEYOND, x.payment(1, 3));
    }

    private static void clear() {
        due.is("a round is cleared away", 0, round().clear());
        ChangerFair x = withNets(-10, 4, 6, 9, -3, -6);
        due.is("count(3)", 38, x.count(3));
        due.is("clear()", 19, x.clear());
        due.is("count(3)", 19, x.count(3));
        due.is("owes(0, 1)", 4, x.owes(0, 1));
        due.is("owes(0, 2)", 6, x.owes(0, 2));
        due.is("owes(4, 3)", 3, x.owes(4, 3));
        due.is("owes(5, 3)", 6, x.owes(5, 3));
        due.is("owes(0, 9)", 0, x.owes(0, 9));
        due.is("net(0)", -10, x.net(0));
        due.is("net(9)", 0, x.net(9));
        due.is("clear() again", 19, x.clear());
        due.is("plan", 4, x.plan(false));
    }

    /** Clearing has no finding: a payment above the most that owe() allows becomes a debt. */
    private static void clearAboveTheMost() {
        ChangerFair x = new ChangerFair();
        x.gain(200);
        x.owe(0, 2, 1000000);
        x.owe(0, 3, 1000000);
        x.owe(2, 1, 1000000);
        x.owe(3, 1, 1000000);
        for (int i = 0; i < 37; i++) {
            x.days(28);
        }
        long debt = x.owes(0, 2);
        due.is("clear()", 2 * debt, x.clear());
        due.is("owes(0, 1)", 2 * debt, x.owes(0, 1));
        due.is("owe(0, 1, 1)", Due.FULL, x.owe(0, 1, 1));
        x.gain(0);
        x.days(27);
        due.is("a debt above the most isn't carried", Due.FULL, x.days(1));
        due.is("part", 1000000000L, x.part(0, 1000000000, 1));
    }

    /** A debt above the most that would only become less is still one that would be above it. */
    private static void oweOfHeapedDebt() {
        ChangerFair x = Debts.heaped(10);
        due.is("owes", 1000000010L, x.owes(0, 1));
        due.is("9 less leave 1 too many", Due.FULL, x.owe(1, 0, 9));
        due.is("1 less leaves 9 too many", Due.FULL, x.owe(1, 0, 1));
        due.is("1 more", Due.FULL, x.owe(0, 1, 1));
        due.is("BEYOND is asked before FULL", Due.BEYOND, x.owe(1, 0, 0));
        due.is("owes still", 1000000010L, x.owes(0, 1));
        due.is("owes the other way", 0, x.owes(1, 0));
        due.is("found(4)", 3, x.found(4));
        due.is("a debt of other houses has its own room", 7, x.owe(0, 2, 7));
        due.is("10 less leave just the most", 0, x.owe(1, 0, 10));
        due.is("owes", 1000000000L, x.owes(0, 1));
        due.is("1 less", 0, x.owe(1, 0, 1));
        due.is("owes", 999999999L, x.owes(0, 1));
        ChangerFair y = Debts.heaped(1000001);
        due.is("1000000 less leave 1 too many", Due.FULL, y.owe(1, 0, 1000000));
        y.coin(0, 1, 1000);
        y.purse(0, 0, 3);
        due.is("coins bring it down, with no finding", 999999998L + 1000000, y.settle(0, 1));
        due.is("owe the other way then", 0, y.owe(1, 0, 1000000));
        due.is("owes", 999999998L, y.owes(0, 1));
    }
}
