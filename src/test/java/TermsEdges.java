/** Edges of the terms: the findings, and points 1 and 6 (the other points stand with their promises). */
final class TermsEdges {
    private final Sentences s;

    TermsEdges(Sentences s) {
        this.s = s;
    }

    void run() {
        findings();
        longs();
        orderOfBills();
        orderOfRecourse();
        orderOfOthers();
        refusedChangesNothing();
        cut();
        fairs();
        houses();
        roads();
        bills();
        amounts();
        states();
        passing();
        taking();
        paying();
        protesting();
        recourseEndorser();
        recourseDrawer();
        newsStates();
        newsRoad();
    }

    private void findings() {
        s.findings("FINDINGS are answers below -999999999999 (12 figures): LOW is -1000000000000; LOW - 1 BEYOND,"
                + " LOW - 2 NONE, LOW - 3 STATE, LOW - 4 FULL, LOW - 5 KIND, LOW - 6 TEXT, LOW - 7 DAY.");
        ChangerFair x = new ChangerFair();
        x.draw(0, 0, 1, 2, 5);
        s.ask(x, -1000000000001L, "days", 0);
        s.ask(x, -1000000000002L, "turn");
        s.ask(x, -1000000000003L, "pay", 0);
        for (int i = 0; i < 30; i++) {
            x.tell(i);
        }
        s.ask(x, -1000000000004L, "tell", 0);
        s.ask(x, -1000000000005L, "draw", 0, 1, 2, 1, 5);
        x.feed('!', 1);
        s.ask(x, -1000000000006L, "read");
        x.days(7);
        s.ask(x, -1000000000007L, "take", 0, 0);
    }

    private void longs() {
        s.findings("All acts answer longs.");
        ChangerFair x = new ChangerFair();
        for (int house = 2; house < 10; house++) {
            x.owe(0, house, Debts.SEED);
            x.owe(house, 1, Debts.SEED);
        }
        long debt = Debts.carryNear(x, Debts.MOST);
        s.is("net(0)", -8 * debt, x.net(0));
        s.is("net(1)", 8 * debt, x.net(1));
        s.is("payment(0, 2)", 8 * debt, x.payment(0, 2));
        s.is("count(3)", 16 * debt, x.count(3));
        s.is("clear()", 8 * debt, x.clear());
        s.is("owes(0, 1)", 8 * debt, x.owes(0, 1));
        s.is("settle(0, 1)", 8 * debt, x.settle(0, 1));
    }

    private void orderOfBills() {
        s.findings("Each act tells its findings in the order in which they are asked;");
        ChangerFair x = Debts.full();
        x.draw(0, 2, 0, 1, 5);
        s.is("take: BEYOND before STATE and DAY", Due.BEYOND, x.take(1, false));
        x.take(0, false);
        s.is("pay: STATE before DAY", Due.DAY, x.pay(0));
        s.is("pay: BEYOND before DAY", Due.BEYOND, x.pay(1));
        x.days(7);
        s.is("take: STATE before DAY", Due.STATE, x.take(0, false));
        s.is("pay: FULL is the last", Due.FULL, x.pay(0));
        x.owe(1, 0, 5);
        x.pay(0);
        s.is("pay: STATE before FULL", Due.STATE, x.pay(0));
        x.days(21);
        s.is("pay: STATE before DAY and FULL", Due.STATE, x.pay(0));
        s.is("pass: BEYOND before STATE", Due.BEYOND, x.pass(0, 10));
        s.is("pass: STATE before KIND", Due.STATE, x.pass(0, 1));
        x.draw(0, 2, 0, 1, 5);
        for (int house = 3; house <= 6; house++) {
            x.pass(1, house);
        }
        s.is("pass: KIND before FULL", Due.KIND, x.pass(1, 6));
        s.is("pass: BEYOND before FULL", Due.BEYOND, x.pass(1, -1));
        x.take(1, true);
        s.is("pass: STATE before FULL", Due.STATE, x.pass(1, 7));
        for (int i = 0; i < 38; i++) {
            x.draw(0, 2, 0, 1, 5);
        }
        s.is("draw: BEYOND before KIND and FULL", Due.BEYOND, x.draw(0, 2, 0, 2, 0));
        s.is("draw: KIND before FULL", Due.KIND, x.draw(0, 2, 0, 2, 5));
        s.is("draw: FULL", Due.FULL, x.draw(0, 2, 0, 1, 5));
    }

    private void orderOfRecourse() {
        s.findings("Each act tells its findings in the order in which they are asked;");
        ChangerFair x = Debts.full();
        Due.read(x, "free");
        x.draw(0, 2, 5, 0, 5);
        x.pass(0, 1);
        s.is("BEYOND before STATE", Due.BEYOND, x.recourse(1, 0));
        s.is("STATE before NONE", Due.STATE, x.recourse(0, 1));
        s.is("STATE before KIND", Due.STATE, x.recourse(0, 0));
        x.take(0, true);
        x.protest(0);
        s.is("BEYOND before NONE", Due.BEYOND, x.recourse(1, 5));
        s.is("NONE before KIND", Due.NONE, x.recourse(0, 1));
        s.is("KIND before FULL", Due.KIND, x.recourse(0, 0));
        x.read();
        s.is("FULL is the last", Due.FULL, x.recourse(0, 0));
    }

    private void orderOfOthers() {
        s.findings("Each act tells its findings in the order in which they are asked;");
        ChangerFair x = Debts.full();
        s.is("owe: BEYOND before FULL", Due.BEYOND, x.owe(0, 1, 0));
        s.is("owe: FULL", Due.FULL, x.owe(0, 1, 1));
        s.is("about: BEYOND before NONE", Due.BEYOND, x.about(0, 7));
        s.is("as: BEYOND before KIND", Due.BEYOND, x.as(0, 1));
        x.days(5);
        x.draw(0, 0, 1, 2, 5);
        s.is("as: BEYOND before KIND", Due.BEYOND, x.as(0, 3));
        s.is("knows: BEYOND before NONE", Due.BEYOND, x.knows(10, 0, 0));
        s.is("knows: NONE", Due.NONE, x.knows(0, 0, 0));
        s.is("payment: BEYOND before NONE", Due.BEYOND, x.payment(5, 3));
        s.is("payment: NONE", Due.NONE, x.payment(5, 2));
        s.is("settle: BEYOND before NONE", Due.BEYOND, x.settle(10, 0));
        s.is("rate: BEYOND before NONE", Due.BEYOND, x.rate(5));
        for (int i = 0; i < 50; i++) {
            x.feed(0, 8);
        }
        s.is("feed: BEYOND before FULL", Due.BEYOND, x.feed(0, 9));
        s.is("feed: FULL", Due.FULL, x.feed(0, 8));
        x.days(22);
        x.gain(200);
        s.is("days: BEYOND before FULL", Due.BEYOND, x.days(61));
        s.is("days: FULL", Due.FULL, x.days(60));
    }

    /** Of every act with every finding this stands in UnchangedTest. */
    private void refusedChangesNothing() {
        s.findings("one that answers a finding changes nothing but what found() tells (and, of read(), fault() and the tape).");
        ChangerFair x = new ChangerFair();
        x.owe(0, 1, 5);
        Due.read(x, "free if late > 0");
        Due.feed(x, "bund");
        x.tell(7);
        s.ask(x, Due.BEYOND, "owe", 0, 0, 5);
        s.ask(x, Due.TEXT, "read");
        s.is("the tape is empty", 0, x.count(5));
        s.is("the fault is told", 0, x.fault());
        s.is("the custom stays", 0, x.binds(1, 0, 0, 0, 0));
        s.is("what is owed stays", 5, x.count(3));
        s.is("the number waits", 1, x.count(4));
        s.is("counted", 1, x.found(1));
        s.is("counted", 1, x.found(6));
    }

    private void cut() {
        s.findings("Quotients are cut.");
        ChangerFair x = new ChangerFair();
        s.is("1998 by 1000", 1, x.coin(0, 2, 999));
        s.is("999 by 1000", 0, x.coin(0, 1, 999));
        x.owe(0, 1, 99);
        x.days(28);
        s.is("1980 by 1000", 100, x.owes(0, 1));
        ChangerFair y = new ChangerFair();
        y.owe(0, 1, 1);
        y.owe(0, 2, 2);
        s.is("2 times 2 by 3, and 1 is left over, for another one", 1, y.part(0, 2, 2));
    }

    private void fairs() {
        s.point(1, "DAYS go from 0 on;");
        s.is("count(0)", 0, new ChangerFair().count(0));
        s.point(1, "a FAIR has 28: DAY d is day d % 28 of FAIR d / 28.");
        for (int fair = 0; fair < 3; fair++) {
            int[] days = {0, 6, 7, 27};
            for (int day : days) {
                ChangerFair x = new ChangerFair();
                x.draw(0, 0, 1, 2, 5);
                x.gain(0);
                for (int i = 0; i < fair; i++) {
                    x.days(28);
                }
                if (day > 0) {
                    x.days(day);
                }
                s.is("count(0)", 28 * fair + day, x.count(0));
                s.is("day " + day + " of fair " + fair, day <= 6 ? 1 : Due.DAY, x.take(0, false));
            }
        }
    }

    private void houses() {
        s.point(1, "HOUSES 0 .. 9 have a SEAT each, a TOWN 0 .. 4 (0 at first).");
        ChangerFair x = new ChangerFair();
        for (int house = 0; house <= 9; house++) {
            s.ask(x, 0, "net", house);
            s.ask(x, 0, "seat", house, 4);
            s.ask(x, 4, "seat", house, 0);
            s.ask(x, Due.BEYOND, "seat", house, 5);
            s.ask(x, Due.BEYOND, "seat", house, -1);
        }
        s.ask(x, Due.BEYOND, "net", -1);
        s.ask(x, Due.BEYOND, "net", 10);
        s.ask(x, Due.BEYOND, "seat", -1, 0);
        s.ask(x, Due.BEYOND, "seat", 10, 0);
    }

    private void roads() {
        s.point(1, "The fair is held in TOWN 0; ROAD of a town: 0 .. 30 days (of TOWN 0 always 0; 0 at first).");
        ChangerFair x = new ChangerFair();
        for (int town = 1; town <= 4; town++) {
            s.ask(x, 0, "road", town, 30);
            s.ask(x, Due.BEYOND, "road", town, 31);
            s.ask(x, Due.BEYOND, "road", town, -1);
        }
        s.ask(x, Due.BEYOND, "road", 0, 30);
        x.draw(0, 0, 1, 2, 5);
        s.is("in TOWN 0 it is known at once", 0, x.knows(3, 0, 0));
        x.seat(3, 4);
        s.is("in TOWN 4 it isn't", Due.NONE, x.knows(3, 0, 29));
        s.is("30 days later it is", 0, x.knows(3, 0, 30));
    }

    private void bills() {
        s.point(1, "BILLS 0, 1, .. (at most 40) are of KINDS: 0 BILL, 1 BEARER under BILL, 2 PLEDGE under BILL;");
        ChangerFair x = new ChangerFair();
        for (int bill = 0; bill < 40; bill++) {
            s.ask(x, bill, "draw", bill % 3, 0, 1, 2, 5);
        }
        s.ask(x, Due.FULL, "draw", 0, 0, 1, 2, 5);
        for (int bill = 0; bill < 3; bill++) {
            for (int kind = 0; kind < 3; kind++) {
                s.ask(x, kind == 0 || kind == bill ? 5 : Due.KIND, "as", bill, kind);
            }
        }
        s.ask(x, Due.BEYOND, "draw", 3, 0, 1, 2, 5);
        s.ask(x, Due.BEYOND, "draw", -1, 0, 1, 2, 5);
    }

    private void amounts() {
        s.point(1, "each has a DRAWER, a DRAWEE, a HOLDER, ENDORSERS (at most 4, the first one first), an AMOUNT (1 .. 100000),");
        ChangerFair x = new ChangerFair();
        s.ask(x, 0, "draw", 0, 7, 8, 9, 1);
        s.ask(x, 1, "draw", 0, 7, 8, 9, 100000);
        s.ask(x, Due.BEYOND, "draw", 0, 7, 8, 9, 0);
        s.ask(x, Due.BEYOND, "draw", 0, 7, 8, 9, 100001);
        s.ask(x, 7, "about", 0, 1);
        s.ask(x, 8, "about", 0, 2);
        s.ask(x, 9, "about", 0, 3);
        int[] houses = {9, 0, 1, 2, 3};
        for (int i = 1; i <= 4; i++) {
            x.pass(0, houses[i]);
        }
        s.ask(x, Due.FULL, "pass", 0, 4);
        for (int i = 0; i < 4; i++) {
            s.ask(x, houses[i], "about", 0, 7 + i);
        }
    }

    private void states() {
        s.point(1, "a STATE: 0 DRAWN, 1 TAKEN, 2 REFUSED, 3 PROTESTED, 4 PAID.");
        ChangerFair x = new ChangerFair();
        x.draw(0, 0, 1, 2, 5);
        x.draw(0, 0, 1, 2, 5);
        s.ask(x, 0, "about", 0, 5);
        x.take(0, false);
        s.ask(x, 1, "about", 0, 5);
        x.take(1, true);
        s.ask(x, 2, "about", 1, 5);
        x.protest(1);
        s.ask(x, 3, "about", 1, 5);
        x.recourse(1, -1);
        s.ask(x, 4, "about", 1, 5);
        x.days(7);
        x.pay(0);
        s.ask(x, 4, "about", 0, 5);
    }

    private void passing() {
        s.point(1, "It may be passed on while it is DRAWN or TAKEN: the HOLDER becomes the last ENDORSER (not of a BEARER),"
                + " another house the HOLDER.");
        for (int kind = 0; kind < 3; kind++) {
            ChangerFair x = new ChangerFair();
            x.draw(kind, 0, 1, 2, 5);
            x.pass(0, 3);
            x.take(0, false);
            x.pass(0, 1);
            s.ask(x, 1, "about", 0, 3);
            s.ask(x, kind == 1 ? 0 : 2, "about", 0, 6);
            s.ask(x, kind == 1 ? Due.NONE : 2, "about", 0, 7);
            s.ask(x, kind == 1 ? Due.NONE : 3, "about", 0, 8);
            s.is("not to the holder", Due.KIND, x.pass(0, 1));
            x.days(7);
            x.pay(0);
            s.is("not when it is paid", Due.STATE, x.pass(0, 4));
        }
    }

    private void taking() {
        s.point(1, "It is TAKEN or REFUSED by its DRAWEE on days 0 .. 6 of a fair, while DRAWN;");
        ChangerFair x = new ChangerFair();
        for (int i = 0; i < 8; i++) {
            x.draw(0, 0, 1, 2, 5);
        }
        for (int day = 0; day <= 6; day++) {
            s.is("day " + day, 1 + day % 2, x.take(day, day % 2 == 1));
            s.is("not again", Due.STATE, x.take(day, false));
            x.days(1);
        }
        for (int day = 7; day <= 27; day++) {
            s.is("day " + day, Due.DAY, x.take(7, day % 2 == 1));
            x.days(1);
        }
        s.is("day 0 of the next fair", 2, x.take(7, true));
    }

    private void paying() {
        s.point(1, "PAID on days 7 .. 27, while TAKEN: the DRAWEE owes its HOLDER the AMOUNT (nothing, if they are the same);");
        ChangerFair x = new ChangerFair();
        x.gain(0);
        for (int i = 0; i < 22; i++) {
            x.draw(0, 0, 1, i == 21 ? 1 : 2, 1 + i);
            x.take(i, false);
        }
        for (int day = 0; day <= 6; day++) {
            s.is("day " + day, Due.DAY, x.pay(0));
            x.days(1);
        }
        long owed = 0;
        for (int day = 7; day <= 27; day++) {
            s.is("day " + day, day - 6, x.pay(day - 7));
            owed += day - 6;
            s.is("owed on day " + day, owed, x.owes(1, 2));
            s.is("not again", Due.STATE, x.pay(day - 7));
            if (day == 27) {
                s.is("to itself nothing", 0, x.pay(21));
            }
            x.days(1);
        }
        s.is("owed in all", owed, x.count(3));
    }

    private void protesting() {
        s.point(1, "PROTESTED while REFUSED.");
        for (int day = 0; day <= 28; day++) {
            ChangerFair x = new ChangerFair();
            x.draw(0, 0, 1, 2, 5);
            s.ask(x, Due.STATE, "protest", 0);
            x.take(0, true);
            if (day > 0) {
                x.days(day);
            }
            s.is("on whatever day", day, x.protest(0));
            s.ask(x, Due.STATE, "protest", 0);
        }
    }

    private void recourseEndorser() {
        s.point(1, "RECOURSE of a PROTESTED one against ENDORSER i: if THE CUSTOM binds that, it owes the HOLDER the AMOUNT"
                + " (nothing if they are the same), is the HOLDER then, and it and the ENDORSERS behind it are none any more;");
        ChangerFair x = new ChangerFair();
        x.draw(0, 0, 1, 2, 5);
        x.pass(0, 3);
        x.pass(0, 4);
        x.pass(0, 3);
        x.pass(0, 5);
        x.take(0, true);
        x.protest(0);
        s.is("the last", 3, x.recourse(0, 3));
        s.is("it owes", 5, x.owes(3, 5));
        s.is("it is the holder", 3, x.about(0, 3));
        s.is("three are left", 3, x.about(0, 6));
        s.is("the same house", 3, x.recourse(0, 1));
        s.is("nothing more is owed", 5, x.count(3));
        s.is("it is the holder", 3, x.about(0, 3));
        s.is("one is left", 1, x.about(0, 6));
        s.is("none any more", Due.NONE, x.recourse(0, 1));
        s.is("the first", 2, x.recourse(0, 0));
        s.is("it owes", 5, x.owes(2, 3));
        s.is("none is left", 0, x.about(0, 6));
        s.is("none any more", Due.NONE, x.recourse(0, 0));
        s.is("protested still", 3, x.about(0, 5));
        ChangerFair y = new ChangerFair();
        y.draw(0, 0, 1, 2, 5);
        y.pass(0, 3);
        y.take(0, true);
        y.protest(0);
        Due.read(y, "free");
        s.is("freed", Due.KIND, y.recourse(0, 0));
        s.is("nothing is owed", 0, y.count(3));
    }

    private void recourseDrawer() {
        s.point(1, "against the DRAWER (always bound): the DRAWER owes the HOLDER, the BILL is PAID.");
        for (int kind = 0; kind < 3; kind++) {
            ChangerFair x = new ChangerFair();
            Due.read(x, "free");
            x.draw(kind, 0, 1, 2, 5);
            x.pass(0, 3);
            x.take(0, true);
            x.protest(0);
            s.ask(x, 0, "recourse", 0, -1);
            s.ask(x, 5, "owes", 0, 3);
            s.ask(x, 4, "about", 0, 5);
            s.ask(x, Due.STATE, "recourse", 0, -1);
        }
        ChangerFair same = new ChangerFair();
        same.draw(0, 0, 1, 2, 5);
        same.pass(0, 0);
        same.take(0, true);
        same.protest(0);
        s.is("the drawer holds it", 0, same.recourse(0, -1));
        s.is("nothing is owed", 0, same.count(3));
        s.is("paid", 4, same.about(0, 5));
    }

    private void newsStates() {
        s.point(6, "NEWS: what became of a BILL (its STATES, with the DAYS on which they began; DRAWN on the day on which"
                + " it was drawn, by whatever house)");
        ChangerFair x = new ChangerFair();
        x.road(1, 10);
        x.seat(5, 1);
        x.days(4);
        x.draw(0, 5, 1, 2, 5);
        x.draw(0, 0, 5, 2, 5);
        for (int bill = 0; bill < 2; bill++) {
            s.ask(x, Due.NONE, "knows", 0, bill, 3);
            s.ask(x, 0, "knows", 0, bill, 4);
            s.is("its own drawer or drawee isn't told sooner", Due.NONE, x.knows(5, bill, 13));
            s.is("10 days later", 0, x.knows(5, bill, 14));
        }
        x.days(1);
        x.take(0, false);
        x.days(2);
        x.pay(0);
        s.ask(x, 0, "knows", 0, 0, 4);
        s.ask(x, 1, "knows", 0, 0, 5);
        s.ask(x, 1, "knows", 0, 0, 6);
        s.ask(x, 4, "knows", 0, 0, 7);
        ChangerFair y = new ChangerFair();
        y.draw(0, 0, 1, 2, 5);
        y.take(0, true);
        s.is("drawn and refused on one day", 2, y.knows(0, 0, 0));
        y.protest(0);
        s.is("protested, too", 3, y.knows(0, 0, 0));
        y.recourse(0, -1);
        s.is("paid, too", 4, y.knows(0, 0, 0));
    }

    private void newsRoad() {
        s.point(6, "is known to a house on a DAY if that isn't below the day on which it became so and the ROAD of that house's SEAT.");
        for (int road = 0; road <= 30; road += 15) {
            ChangerFair x = new ChangerFair();
            x.road(2, road);
            x.seat(7, 2);
            x.days(5);
            x.draw(0, 0, 1, 2, 5);
            s.is("a day too soon", Due.NONE, x.knows(7, 0, 5 + road - 1));
            s.is("on the day", 0, x.knows(7, 0, 5 + road));
            s.is("behind it", 0, x.knows(7, 0, 5 + road + 1));
            x.seat(7, 0);
            s.is("another seat", 0, x.knows(7, 0, 5));
        }
    }
}
