/** Promise 33: part. */
public final class PartTest {
    private static final Due due = new Due("PartTest");

    public static void main(String[] args) {
        beyond();
        oneRank();
        leftOver();
        houseZero();
        pledges();
        pledgesAtMostWhatIsOwed();
        onlyPaidPledgesCount();
        greatSums();
        due.end();
    }

    private static void beyond() {
        ChangerFair x = new ChangerFair();
        x.owe(0, 1, 5);
        due.is("house 10", Due.BEYOND, x.part(10, 1, 0));
        due.is("house -1", Due.BEYOND, x.part(-1, 1, 0));
        due.is("creditor 10", Due.BEYOND, x.part(0, 1, 10));
        due.is("creditor -1", Due.BEYOND, x.part(0, 1, -1));
        due.is("the same", Due.BEYOND, x.part(0, 1, 0));
        due.is("sum -1", Due.BEYOND, x.part(0, -1, 1));
        due.is("sum 1000000001", Due.BEYOND, x.part(0, 1000000001, 1));
        due.is("sum 1000000000", 5, x.part(0, 1000000000, 1));
        due.is("sum 0", 0, x.part(0, 0, 1));
        due.is("nothing is owed", 0, x.part(1, 100, 0));
        due.is("no creditor", 0, x.part(0, 100, 2));
        due.is("nothing changes", 5, x.owes(0, 1));
    }

    private static void oneRank() {
        ChangerFair x = new ChangerFair();
        x.owe(0, 1, 100);
        x.owe(0, 2, 300);
        due.is("enough", 100, x.part(0, 400, 1));
        due.is("enough", 300, x.part(0, 400, 2));
        due.is("more than enough", 300, x.part(0, 4000, 2));
        due.is("a half", 50, x.part(0, 200, 1));
        due.is("a half", 150, x.part(0, 200, 2));
        due.is("one less than enough", 100, x.part(0, 399, 1));
        due.is("one less than enough", 299, x.part(0, 399, 2));
        due.is("1 goes to the least house", 1, x.part(0, 1, 1));
        due.is("and nothing to the other one", 0, x.part(0, 1, 2));
    }

    private static void leftOver() {
        ChangerFair x = new ChangerFair();
        x.owe(5, 2, 10);
        x.owe(5, 4, 10);
        x.owe(5, 7, 10);
        due.is("20 of 30: 6 each and 2 left over", 7, x.part(5, 20, 2));
        due.is("20 of 30", 7, x.part(5, 20, 4));
        due.is("20 of 30", 6, x.part(5, 20, 7));
        due.is("those without a claim get none", 0, x.part(5, 20, 0));
        due.is("those without a claim get none", 0, x.part(5, 20, 3));
        due.is("2 of 30", 1, x.part(5, 2, 2));
        due.is("2 of 30", 1, x.part(5, 2, 4));
        due.is("2 of 30", 0, x.part(5, 2, 7));
    }

    private static void houseZero() {
        ChangerFair x = new ChangerFair();
        int bill = pledge(x, 5, 0, 10);
        x.days(7);
        x.pay(bill);
        x.owe(5, 0, 10);
        x.owe(5, 1, 1);
        x.owe(5, 2, 2);
        for (int i = 0; i < 3; i++) {
            due.is("house 0 in both ranks: 10 and 3, and 1 of 2 left over", 14, x.part(5, 15, 0));
            due.is("a claim of 1 takes what is left over", 1, x.part(5, 15, 1));
            due.is("before a claim of 2", 0, x.part(5, 15, 2));
        }
        due.is("house 0 in rank 0", 10, x.part(5, 10, 0));
        due.is("house 0 takes the first that is left over", 11, x.part(5, 11, 0));
    }

    private static int pledge(ChangerFair x, int drawee, int holder, int amount) {
        int bill = (int) x.draw(2, (holder + 1) % 10, drawee, holder, amount);
        x.take(bill, false);
        return bill;
    }

    private static void pledges() {
        ChangerFair x = new ChangerFair();
        int a = pledge(x, 6, 7, 300);
        int b = pledge(x, 6, 8, 100);
        int c = pledge(x, 6, 7, 60);
        x.days(7);
        x.pay(a);
        x.pay(b);
        x.pay(c);
        x.owe(6, 1, 500);
        x.owe(6, 7, 40);
        due.is("rank 0 first", 0, x.part(6, 460, 1));
        due.is("rank 0 has all its claims", 360, x.part(6, 460, 7));
        due.is("rank 0 has all its claims", 100, x.part(6, 460, 8));
        due.is("rank 0 shares", 180, x.part(6, 230, 7));
        due.is("rank 0 shares", 50, x.part(6, 230, 8));
        due.is("1 left over in rank 0", 1, x.part(6, 1, 7));
        due.is("then rank 1", 25, x.part(6, 487, 1));
        due.is("both ranks", 362, x.part(6, 487, 7));
        due.is("rank 0 alone", 100, x.part(6, 487, 8));
        due.is("all", 400, x.part(6, 1000, 7));
        due.is("all", 500, x.part(6, 1000, 1));
    }

    private static void pledgesAtMostWhatIsOwed() {
        ChangerFair x = new ChangerFair();
        int a = pledge(x, 6, 7, 300);
        x.days(7);
        x.pay(a);
        x.owe(6, 1, 100);
        x.owe(7, 6, 200);
        due.is("the claim is what is owed now", 100, x.part(6, 110, 7));
        due.is("rank 1", 10, x.part(6, 110, 1));
        x.owe(7, 6, 150);
        due.is("nothing is owed any more", 0, x.part(6, 110, 7));
        due.is("rank 1", 100, x.part(6, 110, 1));
        x.owe(6, 7, 400);
        due.is("350 owed again, by the pledge", 110, x.part(6, 110, 7));
        due.is("300 of it in rank 0, 50 of 150 in rank 1", 300 + 13, x.part(6, 340, 7));
        due.is("26 and 1 left over", 27, x.part(6, 340, 1));
    }

    private static void onlyPaidPledgesCount() {
        ChangerFair x = new ChangerFair();
        int plain = (int) x.draw(0, 0, 6, 1, 100);
        x.take(plain, false);
        int passed = pledge(x, 6, 2, 100);
        x.pass(passed, 3);
        int waiting = pledge(x, 6, 4, 100);
        int claimed = (int) x.draw(2, 6, 9, 5, 100);
        x.take(claimed, true);
        x.protest(claimed);
        x.recourse(claimed, -1);
        int drawnOnSelf = (int) x.draw(2, 6, 6, 7, 100);
        x.take(drawnOnSelf, true);
        x.protest(drawnOnSelf);
        x.recourse(drawnOnSelf, -1);
        x.days(7);
        x.pay(plain);
        x.pay(passed);
        x.owe(6, 4, 100);
        due.is("waiting still", 1, x.about(waiting, 5));
        due.is("the holder has rank 0", 100, x.part(6, 100, 3));
        due.is("a plain bill's holder hasn't", 0, x.part(6, 100, 1));
        due.is("an endorser is owed nothing", 0, x.part(6, 100, 2));
        due.is("plain", 25, x.part(6, 200, 1));
        due.is("a pledge that isn't paid", 25, x.part(6, 200, 4));
        due.is("a pledge by recourse of its drawer", 25, x.part(6, 200, 5));
        due.is("recourse of a drawer who is the drawee", 25, x.part(6, 200, 7));
    }

    /** Sums times claims above what a long holds: nets heaped up by clearing. */
    private static void greatSums() {
        ChangerFair x = new ChangerFair();
        x.gain(200);
        for (int house = 2; house < 10; house++) {
            x.owe(0, house, 1000000);
            x.owe(house, 1, 1000000);
        }
        for (int i = 0; i < 18; i++) {
            x.days(56);
        }
        x.days(28);
        long each = x.owes(0, 2);
        x.clear();
        for (int i = 0; i < 3; i++) {
            x.owe(0, 2, 1000000);
        }
        long all = 8 * each + 3000000;
        java.math.BigInteger sum = java.math.BigInteger.valueOf(1000000000L);
        long first = sum.multiply(java.math.BigInteger.valueOf(8 * each))
                .divide(java.math.BigInteger.valueOf(all)).longValue();
        due.is("owes", 8 * each, x.owes(0, 1));
        due.is("part to 1", first + 1, x.part(0, 1000000000, 1));
        due.is("part to 2", 1000000000L - first - 1, x.part(0, 1000000000, 2));
    }
}
