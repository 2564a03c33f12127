/** Edges of promises 25 to 28 (coins), and of point 4 of the terms. */
final class CoinsEdges {
    private final Sentences s;

    CoinsEdges(Sentences s) {
        this.s = s;
    }

    void run() {
        atFirst();
        worth();
        purses();
        settleOrder();
        settleWorthless();
        settlePurseRoomDebt();
        coin();
        purse();
        has();
        settle();
        settleBeyond();
        settleNone();
    }

    private void atFirst() {
        s.point(4, "COINS of kinds 0 .. 3 have WEIGHT (0 .. 1000) and FINE (0 .. 1000 thousandths), both 0 at first;");
        ChangerFair x = new ChangerFair();
        for (int kind = 0; kind < 4; kind++) {
            x.purse(0, kind, 1000);
        }
        s.is("worth nothing at first", 0, x.has(0, -1));
        for (int kind = 0; kind < 4; kind++) {
            s.ask(x, 1000, "coin", kind, 1000, 1000);
            s.ask(x, 0, "coin", kind, 0, 1000);
            s.ask(x, 0, "coin", kind, 1000, 0);
            s.ask(x, Due.BEYOND, "coin", kind, 1001, 1000);
            s.ask(x, Due.BEYOND, "coin", kind, 1000, 1001);
            s.ask(x, Due.BEYOND, "coin", kind, -1, 1000);
            s.ask(x, Due.BEYOND, "coin", kind, 1000, -1);
        }
        s.ask(x, Due.BEYOND, "coin", 4, 1, 1);
        s.ask(x, Due.BEYOND, "coin", -1, 1, 1);
    }

    private void worth() {
        s.point(4, "WORTH of one: WEIGHT times FINE by 1000.");
        ChangerFair x = new ChangerFair();
        long[][] cases = {{1, 999, 0}, {1, 1000, 1}, {1000, 1, 1}, {999, 1, 0}, {2, 500, 1}, {3, 666, 1}, {3, 667, 2},
            {999, 999, 998}, {1000, 999, 999}, {1000, 1000, 1000}};
        for (long[] one : cases) {
            s.ask(x, one[2], "coin", 0, one[0], one[1]);
        }
    }

    private void purses() {
        s.point(4, "A house's PURSE has 0 .. 1000 of each.");
        ChangerFair x = new ChangerFair();
        for (int house = 0; house < 10; house++) {
            for (int kind = 0; kind < 4; kind++) {
                s.ask(x, 0, "has", house, kind);
                s.ask(x, Due.BEYOND, "purse", house, kind, 1001);
                s.ask(x, Due.BEYOND, "purse", house, kind, -1);
                s.ask(x, 0, "purse", house, kind, 1000);
            }
        }
        for (int house = 0; house < 10; house++) {
            for (int kind = 0; kind < 4; kind++) {
                s.ask(x, 1000, "has", house, kind);
                s.ask(x, 1000, "purse", house, kind, 0);
            }
        }
    }

    private void settleOrder() {
        s.point(4, "TO SETTLE a debt: from the kind of the greatest WORTH down (of several the least kind),");
        ChangerFair x = new ChangerFair();
        int[] worths = {7, 50, 7, 60};
        for (int kind = 0; kind < 4; kind++) {
            x.coin(kind, worths[kind], 1000);
            x.purse(3, kind, 1);
        }
        x.owe(3, 4, 117);
        s.is("60 and 50 and 7", 0, x.settle(3, 4));
        s.is("kind 3", 1, x.has(4, 3));
        s.is("kind 1", 1, x.has(4, 1));
        s.is("of the two of 7 the least kind", 1, x.has(4, 0));
        s.is("not the other one", 0, x.has(4, 2));
        ChangerFair y = new ChangerFair();
        y.coin(0, 6, 1000);
        y.coin(1, 4, 1000);
        y.purse(3, 0, 1);
        y.purse(3, 1, 2);
        y.owe(3, 4, 8);
        s.is("the greatest first, though twice 4 would be just it", 2, y.settle(3, 4));
        s.is("6 went", 1, y.has(4, 0));
        ChangerFair z = new ChangerFair();
        for (int kind = 0; kind < 4; kind++) {
            z.coin(kind, 9, 1000);
            z.purse(3, kind, 1);
        }
        z.owe(3, 4, 18);
        z.settle(3, 4);
        s.is("all alike: 0 and 1", 11, z.has(4, 0) + 10 * z.has(4, 1) + 100 * z.has(4, 2) + 1000 * z.has(4, 3));
    }

    private void settleWorthless() {
        s.point(4, "only those of WORTH above 0:");
        ChangerFair x = new ChangerFair();
        x.coin(0, 1, 999);
        x.coin(1, 1, 1000);
        x.purse(0, 0, 1000);
        x.purse(0, 1, 1);
        x.purse(0, 2, 1000);
        x.owe(0, 1, 5);
        s.ask(x, 4, "settle", 0, 1);
        s.ask(x, 1000, "has", 0, 0);
        s.ask(x, 0, "has", 0, 1);
        s.ask(x, 1000, "has", 0, 2);
        s.is("none of worth is left", 4, x.settle(0, 1));
    }

    /** What a house with coins of worth 10 settles: how many go over. */
    private void moved(String name, int purse, int room, int debt, int coins) {
        ChangerFair x = new ChangerFair();
        x.coin(2, 10, 1000);
        x.purse(0, 2, purse);
        x.purse(1, 2, 1000 - room);
        x.owe(0, 1, debt);
        s.is(name + ": settle", debt - 10 * coins, x.settle(0, 1));
        s.is(name + ": the payer's", purse - coins, x.has(0, 2));
        s.is(name + ": the payee's", 1000 - room + coins, x.has(1, 2));
        s.is(name + ": owes", debt - 10 * coins, x.owes(0, 1));
    }

    private void settlePurseRoomDebt() {
        s.point(4, "as many as the PURSE has, the other one's has room for, and the debt (what is left of it) holds,"
                + " go over; the debt is as much less.");
        moved("the purse is empty", 0, 1000, 100, 0);
        moved("the purse has the least", 3, 5, 100, 3);
        moved("no room", 1000, 0, 100, 0);
        moved("room for one", 1000, 1, 100, 1);
        moved("room is the least", 9, 4, 100, 4);
        moved("the debt is below one", 1000, 1000, 9, 0);
        moved("the debt holds just one", 1000, 1000, 10, 1);
        moved("the debt holds one and a rest", 1000, 1000, 19, 1);
        moved("the debt holds two", 1000, 1000, 20, 2);
        moved("a thousand", 1000, 1000, 1000000, 1000);
        ChangerFair x = new ChangerFair();
        x.coin(0, 10, 1000);
        x.coin(1, 3, 1000);
        x.purse(0, 0, 5);
        x.purse(0, 1, 5);
        x.owe(0, 1, 26);
        s.is("what is left of it: 6, which holds two of 3", 0, x.settle(0, 1));
        s.is("two of 10", 2, x.has(1, 0));
        s.is("two of 3", 2, x.has(1, 1));
    }

    private void coin() {
        s.promise(25, "A kind of COINS is so: WORTH of one.");
        ChangerFair x = new ChangerFair();
        x.purse(0, 3, 2);
        s.ask(x, 500, "coin", 3, 1000, 500);
        s.ask(x, 1000, "has", 0, -1);
        s.ask(x, 0, "coin", 3, 0, 0);
        s.ask(x, 0, "has", 0, -1);
        s.ask(x, 1, "coin", 0, 1000, 1);
        s.promise(25, "BEYOND: there is no such kind, or one isn't as told.");
        s.ask(x, Due.BEYOND, "coin", -1, 5, 5);
        s.ask(x, Due.BEYOND, "coin", 4, 5, 5);
        s.ask(x, Due.BEYOND, "coin", 0, -1, 5);
        s.ask(x, Due.BEYOND, "coin", 0, 1001, 5);
        s.ask(x, Due.BEYOND, "coin", 0, 5, -1);
        s.ask(x, Due.BEYOND, "coin", 0, 5, 1001);
        s.ask(x, Due.BEYOND, "coin", Integer.MIN_VALUE, Integer.MAX_VALUE, 5);
        s.ask(x, Due.BEYOND, "coin", 0, Integer.MAX_VALUE, Integer.MAX_VALUE);
        x.purse(0, 0, 1);
        s.is("it stays as it was", 1, x.has(0, -1));
    }

    private void purse() {
        s.promise(26, "A PURSE has n of a kind: how many it had.");
        ChangerFair x = new ChangerFair();
        s.ask(x, 0, "purse", 0, 0, 1000);
        s.ask(x, 1000, "purse", 0, 0, 0);
        s.ask(x, 0, "purse", 9, 3, 1);
        s.ask(x, 1, "purse", 9, 3, 999);
        s.ask(x, 999, "has", 9, 3);
        s.promise(26, "BEYOND.");
        s.ask(x, Due.BEYOND, "purse", -1, 0, 5);
        s.ask(x, Due.BEYOND, "purse", 10, 0, 5);
        s.ask(x, Due.BEYOND, "purse", 0, -1, 5);
        s.ask(x, Due.BEYOND, "purse", 0, 4, 5);
        s.ask(x, Due.BEYOND, "purse", 9, 3, -1);
        s.ask(x, Due.BEYOND, "purse", 9, 3, 1001);
        s.ask(x, Due.BEYOND, "purse", 9, 3, Integer.MIN_VALUE);
        s.ask(x, Due.BEYOND, "purse", 9, 3, Integer.MAX_VALUE);
        s.ask(x, 999, "has", 9, 3);
    }

    private void has() {
        s.promise(27, "How many of a kind a PURSE has (-1: WORTH of all its COINS).");
        ChangerFair x = new ChangerFair();
        for (int kind = 0; kind < 4; kind++) {
            s.ask(x, 0, "has", 9, kind);
            x.coin(kind, 1000, 1000);
            x.purse(9, kind, 1000);
            s.ask(x, 1000, "has", 9, kind);
            s.ask(x, 1000000L * (kind + 1), "has", 9, -1);
        }
        s.ask(x, 0, "has", 8, -1);
        s.promise(27, "BEYOND: there is no such house, or kind.");
        s.ask(x, Due.BEYOND, "has", -1, 0);
        s.ask(x, Due.BEYOND, "has", 10, 0);
        s.ask(x, Due.BEYOND, "has", 10, -1);
        s.ask(x, Due.BEYOND, "has", 0, -2);
        s.ask(x, Due.BEYOND, "has", 0, 4);
        s.ask(x, Due.BEYOND, "has", 0, Integer.MIN_VALUE);
        s.ask(x, Due.BEYOND, "has", Integer.MAX_VALUE, 0);
    }

    private void settle() {
        s.promise(28, "TO SETTLE what a house owes another one: how much is owed still.");
        ChangerFair x = new ChangerFair();
        x.owe(9, 0, 1000000);
        s.is("without coins", 1000000, x.settle(9, 0));
        for (int kind = 0; kind < 4; kind++) {
            x.coin(kind, 1000, 250);
            x.purse(9, kind, 1000);
        }
        s.is("all four kinds, to the last", 0, x.settle(9, 0));
        s.is("nothing is left", 0, x.has(9, -1));
        s.is("nothing is owed", 0, x.count(3));
        ChangerFair heaped = Debts.heaped(3);
        heaped.coin(0, 1, 1000);
        heaped.purse(0, 0, 2);
        s.is("a debt above the most becomes less, too", Debts.MOST + 1, heaped.settle(0, 1));
        heaped.purse(0, 0, 2);
        s.is("down below the most", Debts.MOST - 1, heaped.settle(0, 1));
    }

    private void settleBeyond() {
        s.promise(28, "BEYOND.");
        ChangerFair x = new ChangerFair();
        x.owe(0, 9, 5);
        s.ask(x, Due.BEYOND, "settle", -1, 0);
        s.ask(x, Due.BEYOND, "settle", 10, 0);
        s.ask(x, Due.BEYOND, "settle", 0, -1);
        s.ask(x, Due.BEYOND, "settle", 0, 10);
        s.is("the same", Due.BEYOND, x.settle(0, 0));
        s.ask(x, Due.BEYOND, "settle", Integer.MIN_VALUE, Integer.MAX_VALUE);
        s.ask(x, 6, "found", 1);
    }

    private void settleNone() {
        s.promise(28, "NONE: it owes nothing.");
        ChangerFair x = new ChangerFair();
        s.ask(x, Due.NONE, "settle", 0, 9);
        x.owe(0, 9, 1);
        s.is("that one owes nothing", Due.NONE, x.settle(9, 0));
        s.is("it owes another one", Due.NONE, x.settle(0, 8));
        s.is("it owes 1", 1, x.settle(0, 9));
        x.coin(0, 1, 1000);
        x.purse(0, 0, 1);
        s.is("settled", 0, x.settle(0, 9));
        s.is("owes nothing now", Due.NONE, x.settle(0, 9));
    }
}
