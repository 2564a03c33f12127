/** Edges of promises 1 to 5 (days, towns), and of the use of an object. */
final class DaysEdges {
    private final Sentences s;

    DaysEdges(Sentences s) {
        this.s = s;
    }

    void run() {
        lastCall();
        newObject();
        daysGo();
        carriedBehindDay27();
        everyDebtIsCarried();
        carriedByGain();
        daysBeyond();
        daysFullByOne();
        daysFullOfEachDebt();
        daysFullOnTheWay();
        daysFullOfHeapedDebt();
        gain();
        road();
        seat();
    }

    private void lastCall() {
        s.use("An object is used for at most 512 calls after it has been made; what later calls answer is free.");
        ChangerFair x = new ChangerFair();
        for (int call = 1; call < 512; call++) {
            x.days(60);
        }
        s.ask(x, 511 * 60, "count", 0);
        ChangerFair y = new ChangerFair();
        for (int call = 1; call < 512; call++) {
            y.found(0);
        }
        s.ask(y, 511, "found", 1);
    }

    private void newObject() {
        s.promise(1, "DAY 0, nothing drawn, nothing owed.");
        ChangerFair x = new ChangerFair();
        s.ask(x, 0, "count", 0);
        s.ask(x, 0, "count", 1);
        s.ask(x, Due.BEYOND, "about", 0, 5);
        s.ask(x, 0, "count", 3);
        for (int house = 0; house < 10; house++) {
            s.ask(x, 0, "owes", house, (house + 1) % 10);
            s.ask(x, 0, "owes", (house + 1) % 10, house);
            s.ask(x, 0, "net", house);
        }
        s.ask(x, 0, "plan", 0);
        s.ask(x, 0, "plan", 1);
        s.ask(x, Due.NONE, "payment", 0, 0);
        s.ask(x, 0, "clear");
    }

    private void daysGo() {
        s.promise(2, "n days go: the DAY.");
        ChangerFair x = new ChangerFair();
        s.ask(x, 1, "days", 1);
        s.ask(x, 27, "days", 26);
        s.ask(x, 28, "days", 1);
        s.ask(x, 88, "days", 60);
        s.ask(x, 88, "count", 0);
    }

    private void carriedBehindDay27() {
        s.promise(2, "Behind each day 27 debts are carried:");
        ChangerFair x = new ChangerFair();
        x.gain(100);
        x.owe(0, 9, 1000);
        x.owe(9, 1, 100);
        x.days(26);
        s.ask(x, 1000, "owes", 0, 9);
        x.days(1);
        s.ask(x, 1000, "owes", 0, 9);
        x.days(1);
        s.ask(x, 1100, "owes", 0, 9);
        s.ask(x, 110, "owes", 9, 1);
        s.ask(x, 0, "owes", 9, 0);
        x.days(27);
        s.ask(x, 1100, "owes", 0, 9);
        x.days(1);
        s.ask(x, 1210, "owes", 0, 9);
        x.days(27);
        s.ask(x, 143, "days", 60);
        s.is("three days 27 lie behind", 1210 + 121 + 133 + 146, x.owes(0, 9));
        ChangerFair y = new ChangerFair();
        y.gain(100);
        y.owe(0, 9, 1000);
        y.days(28);
        y.days(56);
        s.is("56 days have two days 27", 1331, y.owes(0, 9));
        y.owe(0, 9, 69);
        y.days(60);
        s.is("60 days from day 0 on have two days 27", 1400 + 140 + 154, y.owes(0, 9));
    }

    private void everyDebtIsCarried() {
        s.promise(2, "Behind each day 27 debts are carried: each becomes");
        ChangerFair x = new ChangerFair();
        x.gain(100);
        for (int house = 0; house < 10; house++) {
            x.owe(house, (house + 1) % 10, 10 * (house + 1));
            x.owe((house + 3) % 10, house, 100 * (house + 1));
        }
        x.days(28);
        for (int house = 0; house < 10; house++) {
            s.ask(x, 11 * (house + 1), "owes", house, (house + 1) % 10);
            s.ask(x, 110 * (house + 1), "owes", (house + 3) % 10, house);
        }
    }

    private void carriedByGain() {
        s.promise(2, "each becomes as much more as it times GAIN by 1000.");
        long[][] cases = {{1, 200, 1}, {4, 200, 4}, {5, 200, 6}, {49, 20, 49}, {50, 20, 51}, {99, 20, 100},
            {100, 20, 102}, {999, 1, 999}, {1000, 1, 1001}, {1000000, 0, 1000000}, {1000000, 200, 1200000}};
        for (long[] one : cases) {
            ChangerFair x = new ChangerFair();
            x.owe(3, 2, (int) one[0]);
            x.gain((int) one[1]);
            x.days(28);
            s.is(one[0] + " with a gain of " + one[1], one[2], x.owes(3, 2));
        }
        ChangerFair x = new ChangerFair();
        x.owe(0, 1, 1000);
        x.owe(2, 3, 30);
        x.owe(4, 3, 30);
        x.days(28);
        s.is("at first it is 20", 1020, x.owes(0, 1));
        s.is("each by itself, not all together", 60, x.owes(2, 3) + x.owes(4, 3));
        s.is("what isn't owed stays so", 0, x.owes(5, 6));
    }

    private void daysBeyond() {
        s.promise(2, "BEYOND: n isn't 1 .. 60.");
        ChangerFair x = new ChangerFair();
        s.ask(x, Due.BEYOND, "days", 0);
        s.ask(x, Due.BEYOND, "days", -1);
        s.ask(x, Due.BEYOND, "days", Integer.MIN_VALUE);
        s.ask(x, Due.BEYOND, "days", 61);
        s.ask(x, Due.BEYOND, "days", Integer.MAX_VALUE);
        s.ask(x, 0, "count", 0);
        s.ask(x, 1, "days", 1);
        s.ask(x, 61, "days", 60);
    }

    private void daysFullByOne() {
        s.promise(2, "FULL: a debt would be above 1000000000");
        // What is owed, the GAIN, and what would be owed then.
        long[][] cases = {{833333334, 200, 1000000000}, {833333335, 200, 1000000002},
            {999000999, 1, 999999999}, {999001000, 1, 1000000001}, {1000000000, 0, 1000000000},
            {999999999, 0, 999999999}, {1000000000, 1, 1001000000}, {980392157, 20, 1000000000}};
        for (long[] one : cases) {
            ChangerFair x = new ChangerFair();
            Debts.grow(x, 7, 8, one[0]);
            x.gain((int) one[1]);
            x.days(27);
            long day = x.count(0);
            boolean full = one[2] > Debts.MOST;
            s.is(one[0] + ": days(1)", full ? Due.FULL : day + 1, x.days(1));
            s.is(one[0] + ": owes", full ? one[0] : one[2], x.owes(7, 8));
            s.is(one[0] + ": count(0)", full ? day : day + 1, x.count(0));
            s.is(one[0] + ": found(4)", full ? 1 : 0, x.found(4));
        }
    }

    private void daysFullOfEachDebt() {
        s.promise(2, "FULL: a debt would be above 1000000000");
        for (int house = 0; house < 10; house++) {
            for (int other = 0; other < 10; other++) {
                if (house != other) {
                    ChangerFair x = new ChangerFair();
                    Debts.grow(x, house, other, Debts.MOST);
                    x.gain(1);
                    s.is("house " + house + " owes house " + other, Due.FULL, x.days(28));
                }
            }
        }
    }

    private void daysFullOnTheWay() {
        s.promise(2, "(the days before that have gone; found() counts it once).");
        ChangerFair x = new ChangerFair();
        x.owe(3, 4, Debts.SEED);
        Debts.grow(x, 0, 1, 800000000);
        long other = x.owes(3, 4);
        long start = x.count(0);
        x.gain(150);
        s.is("the second day 27 is too much", Due.FULL, x.days(60));
        s.is("55 days have gone", start + 55, x.count(0));
        s.is("the first day 27 has carried", 920000000, x.owes(0, 1));
        s.is("and another debt", other + other * 150 / 1000, x.owes(3, 4));
        s.is("counted once", 1, x.found(4));
        s.is("no day goes any more", Due.FULL, x.days(1));
        s.is("the day stays", start + 55, x.count(0));
        s.is("counted again", 2, x.found(4));
        x.gain(0);
        s.is("without a gain it goes on", start + 56, x.days(1));
        x.days(20);
        x.gain(200);
        s.is("up to day 27", start + 83, x.days(7));
        s.is("and no further", Due.FULL, x.days(1));
        twoDebtsFullAtOnce();
    }

    private void twoDebtsFullAtOnce() {
        ChangerFair x = new ChangerFair();
        x.owe(0, 1, Debts.SEED);
        x.owe(5, 4, 1000);
        x.owe(9, 8, Debts.SEED);
        long debt = Debts.carryNear(x, 900000000);
        long small = x.owes(5, 4);
        x.gain(200);
        s.is("two debts would be above", Due.FULL, x.days(28));
        s.is("counted once", 1, x.found(4));
        s.is("none is carried", debt, x.owes(0, 1));
        s.is("none is carried", debt, x.owes(9, 8));
        s.is("none is carried, though it might be", small, x.owes(5, 4));
    }

    private void daysFullOfHeapedDebt() {
        s.promise(2, "FULL: a debt would be above 1000000000");
        ChangerFair x = Debts.heaped(1);
        long start = x.count(0);
        x.gain(0);
        s.is("it would be above still", Due.FULL, x.days(28));
        s.is("27 days have gone", start + 27, x.count(0));
        s.is("1 less", 0, x.owe(1, 0, 1));
        s.is("it is just the most", start + 28, x.days(1));
    }

    private void gain() {
        s.promise(3, "GAIN (0 .. 200; 20 at first) is so: what it was.");
        ChangerFair x = new ChangerFair();
        s.ask(x, 20, "gain", 0);
        s.ask(x, 0, "gain", 200);
        s.ask(x, 200, "gain", 1);
        s.ask(x, 1, "gain", 199);
        s.promise(3, "BEYOND.");
        s.ask(x, Due.BEYOND, "gain", -1);
        s.ask(x, Due.BEYOND, "gain", 201);
        s.ask(x, Due.BEYOND, "gain", Integer.MIN_VALUE);
        s.ask(x, Due.BEYOND, "gain", Integer.MAX_VALUE);
        s.ask(x, 199, "gain", 199);
    }

    private void road() {
        s.promise(4, "The ROAD of a town (1 .. 4) is so: what it was.");
        ChangerFair x = new ChangerFair();
        for (int town = 1; town <= 4; town++) {
            s.ask(x, 0, "road", town, 30);
            s.ask(x, 30, "road", town, 0);
            s.ask(x, 0, "road", town, 20 + town);
        }
        for (int town = 1; town <= 4; town++) {
            s.ask(x, 20 + town, "road", town, 29);
        }
        s.promise(4, "BEYOND.");
        s.ask(x, Due.BEYOND, "road", 0, 0);
        s.ask(x, Due.BEYOND, "road", 0, 1);
        s.ask(x, Due.BEYOND, "road", -1, 1);
        s.ask(x, Due.BEYOND, "road", 5, 1);
        s.ask(x, Due.BEYOND, "road", 1, -1);
        s.ask(x, Due.BEYOND, "road", 4, 31);
        s.ask(x, Due.BEYOND, "road", Integer.MIN_VALUE, Integer.MAX_VALUE);
        s.ask(x, 29, "road", 1, 29);
        s.ask(x, 29, "road", 4, 29);
    }

    private void seat() {
        s.promise(5, "The SEAT of a house is so: what it was.");
        ChangerFair x = new ChangerFair();
        for (int house = 0; house < 10; house++) {
            s.ask(x, 0, "seat", house, 4);
            s.ask(x, 4, "seat", house, 0);
            s.ask(x, 0, "seat", house, house % 5);
        }
        for (int house = 0; house < 10; house++) {
            s.ask(x, house % 5, "seat", house, 3);
        }
        s.promise(5, "BEYOND.");
        s.ask(x, Due.BEYOND, "seat", -1, 0);
        s.ask(x, Due.BEYOND, "seat", 10, 0);
        s.ask(x, Due.BEYOND, "seat", 0, -1);
        s.ask(x, Due.BEYOND, "seat", 9, 5);
        s.ask(x, Due.BEYOND, "seat", Integer.MAX_VALUE, Integer.MIN_VALUE);
        s.ask(x, 3, "seat", 0, 3);
        s.ask(x, 3, "seat", 9, 3);
    }
}
