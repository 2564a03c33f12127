/** Edges of promises 19 to 24 (the book), and of point 3 of the terms. */
final class BookEdges {
    private final Sentences s;

    BookEdges(Sentences s) {
        this.s = s;
    }

    void run() {
        neverBoth();
        nets();
        groups();
        severalPartings();
        paymentsWithinGroups();
        toClear();
        oweMore();
        oweBeyond();
        oweFull();
        oweHeaped();
        owes();
        net();
        plan();
        planOfNow();
        payment();
        clear();
        clearAboveTheMost();
    }

    /** The houses from 0 on have these nets, which are 0 together, by debts in a row from each to the next. */
    private static ChangerFair withNets(int... nets) {
        ChangerFair x = new ChangerFair();
        int carried = 0;
        for (int house = 0; house + 1 < nets.length; house++) {
            // What this house has to hand on so that its net comes out as it is due.
            carried -= nets[house];
            if (carried > 0) {
                x.owe(house, house + 1, carried);
            } else if (carried < 0) {
                x.owe(house + 1, house, -carried);
            }
        }
        return x;
    }

    private void planIs(String name, ChangerFair x, long groups, int[][] payments) {
        s.is(name + ": plan(true)", groups, x.plan(true));
        s.is(name + ": plan(false)", payments.length, x.plan(false));
        for (int i = 0; i < payments.length; i++) {
            for (int what = 0; what < 3; what++) {
                s.is(name + ": payment(" + i + ", " + what + ")", payments[i][what], x.payment(i, what));
            }
        }
        s.is(name + ": no more", Due.NONE, x.payment(payments.length, 0));
    }

    private void neverBoth() {
        s.point(3, "THE BOOK: what each house owes each other one (never both of two: what one owes more stays).");
        ChangerFair x = new ChangerFair();
        for (int house = 0; house < 10; house++) {
            for (int other = 0; other < house; other++) {
                x.owe(house, other, 10 * house + other);
            }
        }
        for (int house = 0; house < 10; house++) {
            for (int other = 0; other < house; other++) {
                s.ask(x, 10 * house + other, "owes", house, other);
                s.ask(x, 0, "owes", other, house);
            }
        }
        ChangerFair y = new ChangerFair();
        y.owe(0, 1, 5);
        y.owe(1, 0, 4);
        s.is("1 stays", 1, y.owes(0, 1));
        s.is("nothing the other way", 0, y.owes(1, 0));
        y.owe(1, 0, 1);
        s.is("as much on both sides", 0, y.owes(0, 1) + y.owes(1, 0));
        y.owe(1, 0, 1);
        y.owe(0, 1, 2);
        s.is("it turns round", 1, y.owes(0, 1));
        s.is("it turns round", 0, y.owes(1, 0));
    }

    private void nets() {
        s.point(3, "NET of a house: what it is owed less what it owes.");
        ChangerFair x = new ChangerFair();
        x.owe(0, 1, 10);
        x.owe(2, 0, 4);
        x.owe(3, 0, 5);
        s.ask(x, -1, "net", 0);
        x.owe(9, 0, 1);
        s.ask(x, 0, "net", 0);
        x.owe(8, 0, 1);
        s.ask(x, 1, "net", 0);
        s.ask(x, 10, "net", 1);
        s.ask(x, -4, "net", 2);
        s.ask(x, 0, "net", 7);
    }

    private void groups() {
        s.point(3, "THE PLAN: the houses whose NET isn't 0 are parted into GROUPS, each of NETS 0 together,"
                + " as many as can be;");
        planIs("nobody owes", new ChangerFair(), 0, new int[0][]);
        ChangerFair ring = new ChangerFair();
        ring.owe(0, 1, 5);
        ring.owe(1, 2, 5);
        ring.owe(2, 0, 5);
        planIs("a ring", ring, 0, new int[0][]);
        planIs("one pair", withNets(0, -7, 0, 7), 1, new int[][] {{1, 3, 7}});
        planIs("two pairs", withNets(-1, -2, 2, 1), 2, new int[][] {{0, 3, 1}, {1, 2, 2}});
        planIs("all ten in one group", withNets(-1, -2, -4, -8, -16, -32, -64, -128, -256, 511), 1,
                new int[][] {{0, 9, 1}, {1, 9, 2}, {2, 9, 4}, {3, 9, 8}, {4, 9, 16}, {5, 9, 32}, {6, 9, 64},
                    {7, 9, 128}, {8, 9, 256}});
        planIs("all ten in five groups", withNets(-1, 1, -2, 2, -4, 4, -8, 8, -16, 16), 5,
                new int[][] {{0, 1, 1}, {2, 3, 2}, {4, 5, 4}, {6, 7, 8}, {8, 9, 16}});
        planIs("three groups, not the two of which the first is lesser", withNets(-6, 2, 4, 6, -4, -2), 3,
                new int[][] {{0, 3, 6}, {5, 1, 2}, {4, 2, 4}});
    }

    private void severalPartings() {
        s.point(3, "of several such partings the one whose GROUPS, in order of their least houses,"
                + " are first the lesser as bits.");
        planIs("{0, 2} is 5, {0, 3} is 9", withNets(-3, -3, 3, 3), 2, new int[][] {{0, 2, 3}, {1, 3, 3}});
        planIs("{0, 1, 2, 3} is 15, {0, 4} is 17", withNets(-9, 3, 3, 3, 9, -9), 2,
                new int[][] {{0, 1, 3}, {0, 2, 3}, {0, 3, 3}, {5, 4, 9}});
        planIs("the first group is the same, the second one counts", withNets(-1, 1, -3, -3, 3, 3), 3,
                new int[][] {{0, 1, 1}, {2, 4, 3}, {3, 5, 3}});
        planIs("alike houses", withNets(-1, -1, -1, -1, -1, 1, 1, 1, 1, 1), 5,
                new int[][] {{0, 5, 1}, {1, 6, 1}, {2, 7, 1}, {3, 8, 1}, {4, 9, 1}});
    }

    private void paymentsWithinGroups() {
        s.point(3, "In each GROUP (in that order): of those who still owe the least house, and of those who are still"
                + " owed the least house: the first pays the second what it owes or that one is owed, whichever is less;"
                + " so on.");
        planIs("it owes less", withNets(-5, -8, 13), 1, new int[][] {{0, 2, 5}, {1, 2, 8}});
        planIs("that one is owed less", withNets(-13, 5, 8), 1, new int[][] {{0, 1, 5}, {0, 2, 8}});
        planIs("just as much, by two", withNets(-5, -8, 6, 7), 1, new int[][] {{0, 2, 5}, {1, 2, 1}, {1, 3, 7}});
        planIs("those who are owed come first as houses", withNets(6, 7, -5, -8), 1,
                new int[][] {{2, 0, 5}, {3, 0, 1}, {3, 1, 7}});
        planIs("the group of the least house first", withNets(-1, 10, -4, -6, 1), 2,
                new int[][] {{0, 4, 1}, {2, 1, 4}, {3, 1, 6}});
    }

    private void toClear() {
        s.point(3, "TO CLEAR: THE BOOK becomes THE PLAN's payments, as debts.");
        ChangerFair x = withNets(-5, -8, 6, 7);
        x.clear();
        s.ask(x, 5, "owes", 0, 2);
        s.ask(x, 1, "owes", 1, 2);
        s.ask(x, 7, "owes", 1, 3);
        s.ask(x, 0, "owes", 0, 1);
        s.ask(x, 0, "owes", 2, 3);
        s.ask(x, 13, "count", 3);
        planIs("the plan stays", x, 1, new int[][] {{0, 2, 5}, {1, 2, 1}, {1, 3, 7}});
    }

    private void oweMore() {
        s.promise(19, "A house comes to owe another one v more: what it owes it then (0 if that one owes it now).");
        ChangerFair x = new ChangerFair();
        s.ask(x, 1, "owe", 0, 9, 1);
        s.ask(x, 1000001, "owe", 0, 9, 1000000);
        s.is("that one owes less now", 0, x.owe(9, 0, 1000000));
        s.is("nobody owes now", 0, x.owe(9, 0, 1));
        s.is("owes", 0, x.owes(0, 9));
        s.is("owe", 3, x.owe(9, 0, 3));
        s.is("it turns round", 1, x.owe(0, 9, 4));
        s.is("owes", 0, x.owes(9, 0));
    }

    private void oweBeyond() {
        s.promise(19, "BEYOND: there is no such house, they are the same, or v isn't 1 .. 1000000.");
        ChangerFair x = new ChangerFair();
        s.ask(x, Due.BEYOND, "owe", -1, 0, 5);
        s.ask(x, Due.BEYOND, "owe", 10, 0, 5);
        s.ask(x, Due.BEYOND, "owe", 0, -1, 5);
        s.ask(x, Due.BEYOND, "owe", 0, 10, 5);
        s.ask(x, Due.BEYOND, "owe", 0, 0, 5);
        s.ask(x, Due.BEYOND, "owe", 9, 9, 5);
        s.ask(x, Due.BEYOND, "owe", 0, 1, 0);
        s.ask(x, Due.BEYOND, "owe", 0, 1, -1);
        s.ask(x, Due.BEYOND, "owe", 0, 1, 1000001);
        s.ask(x, Due.BEYOND, "owe", 0, 1, Integer.MIN_VALUE);
        s.ask(x, Due.BEYOND, "owe", 0, 1, Integer.MAX_VALUE);
        s.ask(x, 0, "count", 3);
        s.ask(x, 11, "found", 1);
    }

    private void oweFull() {
        s.promise(19, "FULL: a debt would be above 1000000000.");
        ChangerFair x = new ChangerFair();
        Debts.grow(x, 8, 9, 999000000);
        s.is("one too many", Due.FULL, owedBeside(x, 8, 9, 1));
        s.is("just up to the most", Debts.MOST, x.owe(8, 9, 999999));
        s.is("none more", Due.FULL, x.owe(8, 9, 1));
        s.is("none more", Due.FULL, x.owe(8, 9, 1000000));
        s.is("owes", Debts.MOST, x.owes(8, 9));
        s.is("the other way", 0, x.owe(9, 8, 1000000));
        s.is("and back", Debts.MOST, x.owe(8, 9, 1000000));
        s.is("another debt has its own room", 1000000, x.owe(8, 7, 1000000));
        s.is("another debt has its own room", 1000000, x.owe(7, 9, 1000000));
        s.is("found(4)", 3, x.found(4));
    }

    /** Comes to owe some, and then 1000000, which is one too many. */
    private static long owedBeside(ChangerFair x, int house, int other, int some) {
        x.owe(house, other, some);
        return x.owe(house, other, 1000000);
    }

    private void oweHeaped() {
        s.promise(19, "FULL: a debt would be above 1000000000.");
        ChangerFair x = Debts.heaped(1000000);
        s.is("heaped up by clearing", Debts.MOST + 1000000, x.owes(0, 1));
        s.is("1 more", Due.FULL, x.owe(0, 1, 1));
        s.is("1 less", Due.FULL, x.owe(1, 0, 1));
        s.is("999999 less leave one too many", Due.FULL, x.owe(1, 0, 999999));
        s.is("owes still", Debts.MOST + 1000000, x.owes(0, 1));
        s.is("1000000 less leave just the most", 0, x.owe(1, 0, 1000000));
        s.is("owes", Debts.MOST, x.owes(0, 1));
        ChangerFair y = Debts.heaped(1000001);
        s.is("1000000 less leave one too many", Due.FULL, y.owe(1, 0, 1000000));
        s.is("two other houses", 5, y.owe(2, 3, 5));
        s.is("one of the two and another", 5, y.owe(0, 3, 5));
    }

    private void owes() {
        s.promise(20, "What a house owes another one.");
        ChangerFair x = new ChangerFair();
        x.owe(0, 9, 1);
        s.ask(x, 1, "owes", 0, 9);
        s.ask(x, 0, "owes", 9, 0);
        s.ask(x, 0, "owes", 0, 8);
        s.is("the most", Debts.MOST, Debts.full().owes(0, 1));
        s.promise(20, "BEYOND (also if they are the same).");
        s.ask(x, Due.BEYOND, "owes", -1, 0);
        s.ask(x, Due.BEYOND, "owes", 10, 0);
        s.ask(x, Due.BEYOND, "owes", 0, -1);
        s.ask(x, Due.BEYOND, "owes", 0, 10);
        s.ask(x, Due.BEYOND, "owes", 0, 0);
        s.ask(x, Due.BEYOND, "owes", 9, 9);
        s.ask(x, Due.BEYOND, "owes", Integer.MIN_VALUE, Integer.MAX_VALUE);
    }

    private void net() {
        s.promise(21, "NET.");
        ChangerFair x = new ChangerFair();
        for (int other = 1; other < 10; other++) {
            x.owe(0, other, Debts.SEED);
        }
        long debt = Debts.carryNear(x, Debts.MOST);
        s.is("it owes all others", -9 * debt, x.net(0));
        s.is("the last house", debt, x.net(9));
        s.is("nothing", 0, new ChangerFair().net(9));
        s.promise(21, "BEYOND.");
        s.ask(x, Due.BEYOND, "net", -1);
        s.ask(x, Due.BEYOND, "net", 10);
        s.ask(x, Due.BEYOND, "net", Integer.MIN_VALUE);
        s.ask(x, Due.BEYOND, "net", Integer.MAX_VALUE);
    }

    private void plan() {
        s.promise(22, "How many payments THE PLAN has (groups: how many GROUPS).");
        ChangerFair x = new ChangerFair();
        s.ask(x, 0, "plan", 0);
        s.ask(x, 0, "plan", 1);
        x.owe(0, 1, 5);
        s.ask(x, 1, "plan", 0);
        s.ask(x, 1, "plan", 1);
        x.owe(2, 1, 5);
        s.ask(x, 2, "plan", 0);
        s.ask(x, 1, "plan", 1);
        x.owe(1, 2, 5);
        s.ask(x, 1, "plan", 0);
        x.owe(1, 0, 5);
        s.is("nobody owes any more", 0, x.plan(false));
        s.is("nobody owes any more", 0, x.plan(true));
        ChangerFair most = withNets(-1, -2, -4, -8, -16, -32, -64, -128, -256, 511);
        s.is("the most payments", 9, most.plan(false));
        ChangerFair groups = withNets(1, -1, 1, -1, 1, -1, 1, -1, 1, -1);
        s.is("the most groups", 5, groups.plan(true));
        s.is("their payments", 5, groups.plan(false));
    }

    /** Asked before and behind each act that changes what is owed. */
    private void planOfNow() {
        s.promise(22, "How many payments THE PLAN has (groups: how many GROUPS).");
        ChangerFair x = new ChangerFair();
        s.is("at first", 0, x.plan(false));
        x.owe(0, 1, 1000);
        s.is("behind owe()", 1, x.plan(false));
        x.days(28);
        s.is("behind days()", 1020, x.payment(0, 2));
        x.coin(0, 20, 1000);
        x.purse(0, 0, 1);
        x.settle(0, 1);
        s.is("behind settle()", 1000, x.payment(0, 2));
        x.purse(0, 0, 50);
        x.settle(0, 1);
        s.is("behind settle() of all", 0, x.plan(true));
        x.draw(0, 2, 3, 4, 5);
        x.draw(0, 5, 6, 7, 5);
        x.take(0, false);
        x.take(1, true);
        x.protest(1);
        s.is("nothing is owed yet", 0, x.plan(false));
        x.recourse(1, -1);
        s.is("behind recourse()", 1, x.plan(false));
        x.days(7);
        x.pay(0);
        s.is("behind pay()", 2, x.plan(false));
        x.owe(4, 5, 7);
        s.is("behind owe()", 2, x.plan(false));
        x.clear();
        s.is("behind clear()", 2, x.plan(false));
        x.owe(7, 5, 1);
        x.owe(5, 7, 1);
        s.is("there and back", 2, x.plan(false));
        x.owe(8, 9, 100);
        x.purse(8, 0, 1);
        x.settle(8, 9);
        s.is("behind owe() and settle()", 3, x.plan(false));
        s.is("the last payment", 80, x.payment(2, 2));
        x.owe(8, 9, 20);
        x.days(21);
        s.is("behind owe() and days()", 102, x.payment(2, 2));
    }

    private void payment() {
        s.promise(23, "Of payment i (from 0 on): 0 who pays, 1 whom, 2 how much.");
        ChangerFair x = withNets(-1, -2, -4, -8, -16, -32, -64, -128, -256, 511);
        s.ask(x, 0, "payment", 0, 0);
        s.ask(x, 9, "payment", 0, 1);
        s.ask(x, 1, "payment", 0, 2);
        s.ask(x, 8, "payment", 8, 0);
        s.ask(x, 9, "payment", 8, 1);
        s.ask(x, 256, "payment", 8, 2);
        s.promise(23, "BEYOND: another what.");
        s.ask(x, Due.BEYOND, "payment", 0, -1);
        s.ask(x, Due.BEYOND, "payment", 0, 3);
        s.ask(x, Due.BEYOND, "payment", 9, 3);
        s.ask(x, Due.BEYOND, "payment", 0, Integer.MIN_VALUE);
        s.ask(x, Due.BEYOND, "payment", 0, Integer.MAX_VALUE);
        s.promise(23, "NONE: there is none such.");
        s.ask(x, Due.NONE, "payment", -1, 0);
        s.ask(x, Due.NONE, "payment", 9, 0);
        s.ask(x, Due.NONE, "payment", 10, 1);
        s.ask(x, Due.NONE, "payment", Integer.MIN_VALUE, 2);
        s.ask(x, Due.NONE, "payment", Integer.MAX_VALUE, 2);
        s.is("an empty plan", Due.NONE, new ChangerFair().payment(0, 2));
    }

    private void clear() {
        s.promise(24, "TO CLEAR: how much is owed in all behind that.");
        s.is("nothing is owed", 0, new ChangerFair().clear());
        ChangerFair ring = new ChangerFair();
        ring.owe(0, 1, 5);
        ring.owe(1, 2, 5);
        ring.owe(2, 0, 5);
        s.is("a ring goes away", 0, ring.clear());
        s.is("count(3)", 0, ring.count(3));
        ring.owe(0, 1, 5);
        ring.owe(1, 2, 5);
        s.is("two become one", 5, ring.clear());
        s.is("owes", 5, ring.owes(0, 2));
        s.is("once more", 5, ring.clear());
    }

    /** It names no finding, so payments above the most become debts, too. */
    private void clearAboveTheMost() {
        s.promise(24, "TO CLEAR: how much is owed in all behind that.");
        ChangerFair x = new ChangerFair();
        for (int house = 2; house < 10; house++) {
            x.owe(0, house, Debts.SEED);
            x.owe(house, 1, Debts.SEED);
        }
        long debt = Debts.carryNear(x, Debts.MOST);
        s.is("count(3)", 16 * debt, x.count(3));
        s.is("payment(0, 2)", 8 * debt, x.payment(0, 2));
        s.is("clear()", 8 * debt, x.clear());
        s.is("owes", 8 * debt, x.owes(0, 1));
        s.is("found(4)", 0, x.found(4));
    }
}
