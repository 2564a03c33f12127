/** Promises 25 to 28: coin, purse, has, settle. */
public final class CoinsTest {
    private static final Due due = new Due("CoinsTest");

    public static void main(String[] args) {
        coin();
        purse();
        has();
        settle();
        settleOrder();
        settleRoom();
        due.end();
    }

    private static void coin() {
        ChangerFair x = new ChangerFair();
        due.is("coin", 1000, x.coin(0, 1000, 1000));
        due.is("cut", 1, x.coin(1, 3, 666));
        due.is("cut", 0, x.coin(2, 1, 999));
        due.is("nothing", 0, x.coin(3, 0, 0));
        due.is("kind 4", Due.BEYOND, x.coin(4, 1, 1));
        due.is("kind -1", Due.BEYOND, x.coin(-1, 1, 1));
        due.is("weight 1001", Due.BEYOND, x.coin(0, 1001, 1));
        due.is("weight -1", Due.BEYOND, x.coin(0, -1, 1));
        due.is("fine 1001", Due.BEYOND, x.coin(0, 1, 1001));
        due.is("fine -1", Due.BEYOND, x.coin(0, 1, -1));
        x.purse(0, 0, 1);
        due.is("worth as before", 1000, x.has(0, -1));
    }

    private static void purse() {
        ChangerFair x = new ChangerFair();
        due.is("purse", 0, x.purse(0, 3, 1000));
        due.is("purse", 1000, x.purse(0, 3, 5));
        due.is("purse", 5, x.purse(0, 3, 0));
        due.is("another kind", 0, x.purse(0, 2, 9));
        due.is("another house", 0, x.purse(9, 2, 8));
        due.is("n 1001", Due.BEYOND, x.purse(0, 2, 1001));
        due.is("n -1", Due.BEYOND, x.purse(0, 2, -1));
        due.is("kind 4", Due.BEYOND, x.purse(0, 4, 1));
        due.is("kind -1", Due.BEYOND, x.purse(0, -1, 1));
        due.is("house 10", Due.BEYOND, x.purse(10, 0, 1));
        due.is("house -1", Due.BEYOND, x.purse(-1, 0, 1));
        due.is("has", 9, x.has(0, 2));
        due.is("has", 8, x.has(9, 2));
    }

    private static void has() {
        ChangerFair x = new ChangerFair();
        for (int kind = 0; kind < 4; kind++) {
            x.coin(kind, 1000, 1000 - kind);
            x.purse(7, kind, 1000 - 10 * kind);
        }
        long all = 0;
        for (int kind = 0; kind < 4; kind++) {
            due.is("has", 1000 - 10 * kind, x.has(7, kind));
            all += (1000L - kind) * (1000 - 10 * kind);
        }
        due.is("worth of all", all, x.has(7, -1));
        x.coin(0, 0, 0);
        due.is("worth of all, coin 0 being worth nothing", all - 1000000, x.has(7, -1));
        due.is("kind 4", Due.BEYOND, x.has(7, 4));
        due.is("kind -2", Due.BEYOND, x.has(7, -2));
        due.is("house 10", Due.BEYOND, x.has(10, 0));
        due.is("house -1", Due.BEYOND, x.has(-1, -1));
    }

    private static void settle() {
        ChangerFair x = new ChangerFair();
        due.is("nothing owed", Due.NONE, x.settle(0, 1));
        x.owe(0, 1, 100);
        due.is("owed by the other one", Due.NONE, x.settle(1, 0));
        due.is("no coins", 100, x.settle(0, 1));
        x.coin(0, 30, 1000);
        x.coin(1, 7, 1000);
        x.coin(2, 1000, 0);
        x.purse(0, 0, 2);
        x.purse(0, 1, 4);
        x.purse(0, 2, 50);
        x.purse(1, 1, 3);
        due.is("settle", 12, x.settle(0, 1));
        due.is("owes", 12, x.owes(0, 1));
        due.is("payer's 0", 0, x.has(0, 0));
        due.is("payer's 1", 0, x.has(0, 1));
        due.is("coins worth nothing stay", 50, x.has(0, 2));
        due.is("payee's 0", 2, x.has(1, 0));
        due.is("payee's 1", 7, x.has(1, 1));
        due.is("the same house", Due.BEYOND, x.settle(0, 0));
        due.is("house 10", Due.BEYOND, x.settle(10, 0));
        due.is("other 10", Due.BEYOND, x.settle(0, 10));
        due.is("house -1", Due.BEYOND, x.settle(-1, 0));
        due.is("other -1", Due.BEYOND, x.settle(0, -1));
    }

    private static void settleOrder() {
        ChangerFair x = new ChangerFair();
        x.coin(0, 10, 1000);
        x.coin(1, 20, 500);
        x.coin(2, 60, 1000);
        x.coin(3, 45, 1000);
        for (int kind = 0; kind < 4; kind++) {
            x.purse(5, kind, 2);
        }
        x.owe(5, 6, 99);
        due.is("the greatest worth first, even if another way would fit better", 9, x.settle(5, 6));
        due.is("60 once", 1, x.has(6, 2));
        due.is("45 doesn't fit", 0, x.has(6, 3));
        due.is("of equal worth the least kind", 2, x.has(6, 0));
        due.is("then the next kind", 1, x.has(6, 1));
        due.is("nothing more fits", 9, x.settle(5, 6));
    }

    private static void settleRoom() {
        ChangerFair x = new ChangerFair();
        x.coin(0, 100, 1000);
        x.coin(3, 1, 1000);
        x.purse(2, 0, 500);
        x.purse(2, 3, 1000);
        x.purse(3, 0, 998);
        x.purse(3, 3, 1000);
        x.owe(2, 3, 1000);
        due.is("room for two", 800, x.settle(2, 3));
        due.is("payer's", 498, x.has(2, 0));
        due.is("payee's", 1000, x.has(3, 0));
        x.purse(3, 3, 400);
        due.is("room for 600", 200, x.settle(2, 3));
        x.purse(3, 3, 0);
        due.is("settled", 0, x.settle(2, 3));
        due.is("just what is owed", 200, x.has(3, 3));
        due.is("owes nothing", Due.NONE, x.settle(2, 3));
        due.is("count(3)", 0, x.count(3));
    }
}
