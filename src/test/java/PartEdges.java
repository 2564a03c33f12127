/** Edges of promise 33, and of point 7 of the terms. */
final class PartEdges {
    private final Sentences s;

    PartEdges(Sentences s) {
        this.s = s;
    }

    void run() {
        nobodyIsOwed();
        pledgesPaidByPay();
        claimsAtMost();
        restOfWhatIsOwed();
        enough();
        shares();
        leftOver();
        secondRank();
        askedAgain();
        gets();
        beyond();
    }

    /** A pledge on a drawee comes to a holder's hand and is taken; it is day 0 .. 6 of a fair. */
    private static int pledge(ChangerFair x, int drawee, int holder, int amount) {
        int bill = (int) x.draw(2, (holder + 1) % 10, drawee, holder, amount);
        x.take(bill, false);
        return bill;
    }

    /** House 0 owes by paid pledges: amounts to houses 1, 2, ..; it is day 7. */
    private static ChangerFair pledged(int... amounts) {
        ChangerFair x = new ChangerFair();
        for (int i = 0; i < amounts.length; i++) {
            if (amounts[i] > 0) {
                pledge(x, 0, i + 1, amounts[i]);
            }
        }
        x.days(7);
        for (int bill = 0; bill < x.count(1); bill++) {
            x.pay(bill);
        }
        return x;
    }

    private static ChangerFair owing(int... amounts) {
        ChangerFair x = new ChangerFair();
        for (int i = 0; i < amounts.length; i++) {
            if (amounts[i] > 0) {
                x.owe(0, i + 1, amounts[i]);
            }
        }
        return x;
    }

    /** What houses 1, 2, .. get of a sum of house 0. */
    private void parted(ChangerFair x, int sum, long... shares) {
        for (int i = 0; i < shares.length; i++) {
            s.ask(x, shares[i], "part", 0, sum, i + 1);
        }
    }

    private void nobodyIsOwed() {
        s.point(7, "TO PART a sum among those whom a house owes:");
        ChangerFair x = new ChangerFair();
        s.is("it owes nobody", 0, x.part(0, 1000000000, 1));
        x.owe(1, 0, 5);
        s.is("it is owed", 0, x.part(0, 1000000000, 1));
        x.owe(0, 2, 5);
        s.is("it owes another one", 0, x.part(0, 1000000000, 1));
        s.is("that one", 5, x.part(0, 1000000000, 2));
        s.is("nothing changes by that", 5, x.owes(0, 2));
    }

    private void pledgesPaidByPay() {
        s.point(7, "RANK 0 are houses to which it owes by PLEDGES that were PAID by pay() while it was their DRAWEE"
                + " and they their HOLDER");
        ChangerFair x = new ChangerFair();
        int paid = pledge(x, 0, 1, 100);
        x.pass(paid, 2);
        int waiting = pledge(x, 0, 3, 100);
        int plain = (int) x.draw(0, 5, 0, 4, 100);
        x.take(plain, false);
        int bearer = (int) x.draw(1, 5, 0, 5 + 1, 100);
        x.take(bearer, false);
        int drawer = (int) x.draw(2, 0, 0, 7, 100);
        x.take(drawer, true);
        x.protest(drawer);
        x.recourse(drawer, -1);
        int endorser = (int) x.draw(2, 9, 0, 0, 100);
        x.pass(endorser, 8);
        x.take(endorser, true);
        x.protest(endorser);
        x.recourse(endorser, 0);
        int self = pledge(x, 0, 0, 100);
        x.days(7);
        x.pay(paid);
        x.pay(plain);
        x.pay(bearer);
        x.pay(self);
        x.owe(0, 3, 100);
        s.is("the pledge waits", 1, x.about(waiting, 5));
        s.is("the holder has all", 100, x.part(0, 100, 2));
        s.is("the payee of it", 0, x.part(0, 100, 1));
        s.is("a pledge that is taken only", 0, x.part(0, 100, 3));
        s.is("a plain bill", 0, x.part(0, 100, 4));
        s.is("a bearer", 0, x.part(0, 100, 6));
        s.is("a pledge paid by recourse against the drawer", 0, x.part(0, 100, 7));
        s.is("a pledge claimed back from an endorser", 0, x.part(0, 100, 8));
        s.is("all others alike", 10, x.part(0, 150, 3));
        s.is("all others alike", 10, x.part(0, 150, 8));
    }

    private void claimsAtMost() {
        s.point(7, "(a house's claim: the AMOUNTS of these, in all, at most what it owes it now),");
        ChangerFair x = pledged(60, 40);
        x.draw(2, 5, 0, 1, 30);
        x.days(21);
        x.take(2, false);
        x.days(7);
        x.gain(0);
        x.pay(2);
        // The gain of day 27 has made them 61 and 40; house 1 has 30 more now.
        s.is("owes", 91, x.owes(0, 1));
        x.owe(1, 0, 1);
        parted(x, 130, 90, 40);
        parted(x, 65, 45, 20);
        x.owe(1, 0, 1);
        s.is("it owes less now", 89, x.part(0, 129, 1));
        x.owe(1, 0, 49);
        parted(x, 80, 40, 40);
        parted(x, 40, 20, 20);
        x.owe(1, 0, 40);
        s.is("it owes nothing now", 0, x.part(0, 40, 1));
        s.is("the other one", 40, x.part(0, 40, 2));
        x.owe(1, 0, 5);
        s.is("it is owed now", 0, x.part(0, 40, 1));
        s.is("the other side has no pledge", 5, x.part(1, 40, 0));
        x.owe(0, 1, 95);
        parted(x, 130, 90, 40);
    }

    private void restOfWhatIsOwed() {
        s.point(7, "RANK 1 the rest of what it owes.");
        ChangerFair x = pledged(100);
        x.owe(0, 1, 50);
        x.owe(0, 2, 50);
        s.is("the claim by the pledge alone", 100, x.part(0, 100, 1));
        s.is("nothing is left for it", 0, x.part(0, 100, 2));
        parted(x, 200, 150, 50);
        parted(x, 120, 110, 10);
    }

    private void enough() {
        s.point(7, "RANK 0 first: if the sum is enough each gets its claim;");
        ChangerFair x = pledged(7, 5, 3);
        parted(x, 15, 7, 5, 3);
        parted(x, 16, 7, 5, 3);
        parted(x, 1000000000, 7, 5, 3);
        s.is("just one too few", 14, x.part(0, 14, 1) + x.part(0, 14, 2) + x.part(0, 14, 3));
        s.is("the last one lacks it", 2, x.part(0, 14, 3));
    }

    private void shares() {
        s.point(7, "else each gets the sum times its claim by all claims,");
        ChangerFair x = pledged(100, 300, 600);
        parted(x, 0, 0, 0, 0);
        parted(x, 10, 1, 3, 6);
        parted(x, 500, 50, 150, 300);
        parted(x, 990, 99, 297, 594);
        ChangerFair most = new ChangerFair();
        most.owe(0, 1, Debts.SEED);
        most.owe(0, 2, Debts.SEED);
        long debt = Debts.carryNear(most, Debts.MOST);
        s.is("the greatest sum", 500000000, most.part(0, 1000000000, 1));
        s.is("the greatest sum", 500000000, most.part(0, 1000000000, 2));
        s.is("claims near the most", 1, debt > 999000000L ? 1 : 0);
        s.is("just one too few", 500000000, most.part(0, 999999999, 1));
        s.is("just one too few", 499999999, most.part(0, 999999999, 2));
    }

    private void leftOver() {
        s.point(7, "and what is left over goes 1 to each that has a claim, the least house first.");
        ChangerFair x = pledged(10, 0, 10, 10);
        parted(x, 1, 1, 0, 0, 0);
        parted(x, 2, 1, 0, 1, 0);
        parted(x, 3, 1, 0, 1, 1);
        parted(x, 4, 2, 0, 1, 1);
        parted(x, 29, 10, 0, 10, 9);
        ChangerFair y = owing(1, 1, 1, 1, 1, 1, 1, 1, 1);
        for (int sum = 0; sum <= 9; sum++) {
            for (int house = 1; house <= 9; house++) {
                s.ask(y, house <= sum ? 1 : 0, "part", 0, sum, house);
            }
        }
        ChangerFair z = owing(1, 1000000);
        s.is("a share of 0 gets 1, too", 1, z.part(0, 500000, 1));
        s.is("the other one", 499999, z.part(0, 500000, 2));
    }

    private void secondRank() {
        s.point(7, "RANK 1 likewise, of what is left.");
        ChangerFair x = pledged(10, 0, 20);
        x.owe(0, 2, 10);
        x.owe(0, 3, 10);
        x.owe(0, 4, 10);
        parted(x, 29, 10, 0, 19, 0);
        parted(x, 30, 10, 0, 20, 0);
        parted(x, 31, 10, 1, 20, 0);
        parted(x, 32, 10, 1, 21, 0);
        parted(x, 33, 10, 1, 21, 1);
        parted(x, 45, 10, 5, 25, 5);
        parted(x, 59, 10, 10, 30, 9);
        parted(x, 60, 10, 10, 30, 10);
        parted(x, 61, 10, 10, 30, 10);
        ChangerFair one = pledged(100);
        one.owe(0, 2, 50);
        s.is("not even enough for RANK 0", 0, one.part(0, 99, 2));
        s.is("nothing is left", 0, one.part(0, 100, 2));
        s.is("1 is left", 1, one.part(0, 101, 2));
        s.is("just enough", 50, one.part(0, 150, 2));
        s.is("more than enough", 50, one.part(0, 151, 2));
    }

    /** Claims of one asking don't stay for the next, of whatever house. */
    private void askedAgain() {
        s.point(7, "(a house's claim: the AMOUNTS of these, in all, at most what it owes it now),");
        for (int creditor = 0; creditor < 9; creditor++) {
            ChangerFair x = new ChangerFair();
            int bill = pledge(x, 9, creditor, 10);
            x.days(7);
            x.pay(bill);
            int other = (creditor + 1) % 9;
            x.owe(9, creditor, 90);
            x.owe(9, other, 90);
            for (int i = 0; i < 3; i++) {
                s.ask(x, 55, "part", 9, 100, creditor);
                s.ask(x, 45, "part", 9, 100, other);
            }
            int debtor = (creditor + 2) % 9;
            x.owe(debtor, creditor, 50);
            x.owe(debtor, other, 50);
            s.is("another house has given no pledge", 25, x.part(debtor, 50, creditor));
        }
    }

    private void gets() {
        s.promise(33, "What a house (creditor) gets when a sum is PARTED among those whom a house owes.");
        ChangerFair x = new ChangerFair();
        x.owe(9, 0, 3);
        x.owe(9, 8, 1);
        s.ask(x, 3, "part", 9, 1000000000, 0);
        s.ask(x, 1, "part", 9, 1000000000, 8);
        s.ask(x, 0, "part", 9, 1000000000, 7);
        s.ask(x, 0, "part", 9, 0, 0);
        s.ask(x, 1, "part", 9, 1, 0);
        s.ask(x, 0, "part", 9, 1, 8);
        s.ask(x, 4, "count", 3);
        ChangerFair heaped = Debts.heaped(5);
        s.is("a debt above the greatest sum", 1000000000, heaped.part(0, 1000000000, 1));
    }

    private void beyond() {
        s.promise(33, "BEYOND: there is no such house (either), they are the same, or sum isn't 0 .. 1000000000.");
        ChangerFair x = owing(5);
        s.ask(x, Due.BEYOND, "part", -1, 5, 1);
        s.ask(x, Due.BEYOND, "part", 10, 5, 1);
        s.ask(x, Due.BEYOND, "part", 0, 5, -1);
        s.ask(x, Due.BEYOND, "part", 0, 5, 10);
        s.ask(x, Due.BEYOND, "part", 0, 5, 0);
        s.ask(x, Due.BEYOND, "part", 9, 5, 9);
        s.ask(x, Due.BEYOND, "part", 0, -1, 1);
        s.ask(x, Due.BEYOND, "part", 0, 1000000001, 1);
        s.ask(x, Due.BEYOND, "part", 0, Integer.MIN_VALUE, 1);
        s.ask(x, Due.BEYOND, "part", 0, Integer.MAX_VALUE, 1);
        s.ask(x, 0, "part", 0, 0, 1);
        s.ask(x, 5, "part", 0, 1000000000, 1);
        s.ask(x, 10, "found", 1);
    }
}
