/** Promises 6 to 14: draw, pass, take, pay, protest, recourse, about, as, knows. */
public final class BillsTest {
    private static final int BEARER = 1;
    private static final int PLEDGE = 2;
    private static final Due due = new Due("BillsTest");

    public static void main(String[] args) {
        draw();
        drawFull();
        pass();
        passBearer();
        take();
        takeDays();
        pay();
        payFull();
        payOfHeapedDebt();
        protest();
        recourseBack();
        recourseFreed();
        recourseSame();
        recourseFull();
        recourseOfHeapedDebt();
        about();
        as();
        knows();
        knowsAfterMoves();
        due.end();
    }

    private static void draw() {
        ChangerFair x = new ChangerFair();
        due.is("draw", 0, x.draw(0, 0, 1, 2, 1));
        due.is("draw, drawee is drawer", 1, x.draw(1, 0, 0, 2, 100000));
        due.is("draw, drawee is payee", 2, x.draw(2, 9, 8, 8, 5));
        due.is("kind -1", Due.BEYOND, x.draw(-1, 0, 1, 2, 1));
        due.is("kind 3", Due.BEYOND, x.draw(3, 0, 1, 2, 1));
        due.is("drawer -1", Due.BEYOND, x.draw(0, -1, 1, 2, 1));
        due.is("drawer 10", Due.BEYOND, x.draw(0, 10, 1, 2, 1));
        due.is("drawee -1", Due.BEYOND, x.draw(0, 0, -1, 2, 1));
        due.is("drawee 10", Due.BEYOND, x.draw(0, 0, 10, 2, 1));
        due.is("payee -1", Due.BEYOND, x.draw(0, 0, 1, -1, 1));
        due.is("payee 10", Due.BEYOND, x.draw(0, 0, 1, 10, 1));
        due.is("amount 0", Due.BEYOND, x.draw(0, 0, 1, 2, 0));
        due.is("amount 100001", Due.BEYOND, x.draw(0, 0, 1, 2, 100001));
        due.is("amount -5", Due.BEYOND, x.draw(0, 0, 1, 2, -5));
        due.is("drawer is payee", Due.KIND, x.draw(0, 2, 1, 2, 1));
        due.is("BEYOND is asked before KIND", Due.BEYOND, x.draw(0, 2, 1, 2, 0));
        due.is("count(1)", 3, x.count(1));
        due.is("nothing is owed yet", 0, x.count(3));
    }

    private static void drawFull() {
        ChangerFair x = new ChangerFair();
        for (int i = 0; i < 40; i++) {
            due.is("draw " + i, i, x.draw(i % 3, i % 10, 1, (i + 1) % 10, i + 1));
        }
        due.is("the 41st", Due.FULL, x.draw(0, 0, 1, 2, 1));
        due.is("KIND is asked before FULL", Due.KIND, x.draw(0, 0, 1, 0, 1));
        due.is("BEYOND is asked before FULL", Due.BEYOND, x.draw(0, 0, 1, 2, 0));
        due.is("count(1)", 40, x.count(1));
        due.is("about(39, 4)", 40, x.about(39, 4));
        due.is("about(40, 4)", Due.BEYOND, x.about(40, 4));
        due.is("take(40)", Due.BEYOND, x.take(40, false));
        due.is("part", 0, x.part(0, 5, 1));
    }

    private static void pass() {
        ChangerFair x = new ChangerFair();
        x.draw(0, 0, 1, 2, 10);
        due.is("pass to the holder", Due.KIND, x.pass(0, 2));
        due.is("pass to the drawer", 1, x.pass(0, 0));
        due.is("pass back", 2, x.pass(0, 2));
        x.take(0, false);
        due.is("pass when taken", 3, x.pass(0, 1));
        due.is("pass", 4, x.pass(0, 5));
        due.is("pass a fifth time", Due.FULL, x.pass(0, 6));
        due.is("KIND is asked before FULL", Due.KIND, x.pass(0, 5));
        due.is("endorser 0", 2, x.about(0, 7));
        due.is("endorser 1", 0, x.about(0, 8));
        due.is("endorser 2", 2, x.about(0, 9));
        due.is("endorser 3", 1, x.about(0, 10));
        due.is("holder", 5, x.about(0, 3));
        due.is("no such bill", Due.BEYOND, x.pass(1, 5));
        due.is("no such bill", Due.BEYOND, x.pass(-1, 5));
        due.is("no such house", Due.BEYOND, x.pass(0, 10));
        due.is("no such house", Due.BEYOND, x.pass(0, -1));
        x.days(7);
        x.pay(0);
        due.is("pass when paid; STATE is asked before KIND", Due.STATE, x.pass(0, 5));
        due.is("BEYOND is asked before STATE", Due.BEYOND, x.pass(0, 10));
        ChangerFair y = new ChangerFair();
        y.draw(2, 0, 1, 2, 10);
        y.take(0, true);
        due.is("pass when refused", Due.STATE, y.pass(0, 5));
        y.protest(0);
        due.is("pass when protested", Due.STATE, y.pass(0, 5));
    }

    private static void passBearer() {
        ChangerFair x = new ChangerFair();
        x.draw(BEARER, 0, 1, 2, 10);
        for (int i = 0; i < 12; i++) {
            due.is("a bearer has no endorsers", 0, x.pass(0, 3 + i % 2));
        }
        due.is("KIND of a bearer", Due.KIND, x.pass(0, 4));
        due.is("holder", 4, x.about(0, 3));
        x.draw(PLEDGE, 0, 1, 2, 10);
        due.is("a pledge has endorsers", 1, x.pass(1, 3));
    }

    private static void take() {
        ChangerFair x = new ChangerFair();
        x.draw(0, 0, 1, 2, 10);
        x.draw(0, 0, 1, 2, 10);
        due.is("take", 1, x.take(0, false));
        due.is("refuse", 2, x.take(1, true));
        due.is("again", Due.STATE, x.take(0, false));
        due.is("again", Due.STATE, x.take(1, false));
        due.is("no such bill", Due.BEYOND, x.take(2, false));
        due.is("no such bill", Due.BEYOND, x.take(-1, true));
        due.is("state 0", 1, x.about(0, 5));
        due.is("state 1", 2, x.about(1, 5));
        x.days(7);
        due.is("STATE is asked before DAY", Due.STATE, x.take(0, false));
    }

    private static void takeDays() {
        ChangerFair x = new ChangerFair();
        for (int i = 0; i < 4; i++) {
            x.draw(0, 0, 1, 2, 10);
        }
        x.days(6);
        due.is("take on day 6", 1, x.take(0, false));
        x.days(1);
        due.is("take on day 7", Due.DAY, x.take(1, false));
        due.is("refuse on day 7", Due.DAY, x.take(1, true));
        x.days(20);
        due.is("take on day 27", Due.DAY, x.take(1, false));
        x.days(1);
        due.is("refuse on day 28", 2, x.take(1, true));
        x.days(6);
        due.is("take on day 34", 1, x.take(2, false));
        x.days(1);
        due.is("take on day 35", Due.DAY, x.take(3, false));
        due.is("still drawn", 0, x.about(3, 5));
    }

    private static void pay() {
        ChangerFair x = new ChangerFair();
        x.draw(0, 0, 1, 2, 70);
        x.draw(0, 0, 3, 3, 90);
        x.draw(0, 0, 2, 1, 30);
        x.draw(0, 0, 2, 1, 100);
        x.draw(0, 4, 5, 6, 8);
        due.is("pay what isn't taken", Due.STATE, x.pay(0));
        due.is("no such bill", Due.BEYOND, x.pay(5));
        due.is("no such bill", Due.BEYOND, x.pay(-1));
        for (int i = 0; i < 4; i++) {
            x.take(i, false);
        }
        x.take(4, true);
        due.is("pay on day 0", Due.DAY, x.pay(0));
        due.is("STATE is asked before DAY", Due.STATE, x.pay(4));
        x.days(6);
        due.is("pay on day 6", Due.DAY, x.pay(0));
        x.days(1);
        due.is("pay on day 7", 70, x.pay(0));
        due.is("owes", 70, x.owes(1, 2));
        due.is("drawee is holder", 0, x.pay(1));
        due.is("it is paid all the same", 4, x.about(1, 5));
        due.is("what one owes more stays: the answer is the amount", 30, x.pay(2));
        due.is("owes", 40, x.owes(1, 2));
        x.days(20);
        due.is("pay on day 27", 100, x.pay(3));
        due.is("owes", 0, x.owes(1, 2));
        due.is("owes", 60, x.owes(2, 1));
        due.is("count(3)", 60, x.count(3));
        due.is("pay again", Due.STATE, x.pay(0));
        due.is("pay what is refused", Due.STATE, x.pay(4));
        due.is("the day of PAID", 27, x.about(3, 11));
    }

    private static void payFull() {
        ChangerFair x = new ChangerFair();
        x.draw(0, 2, 0, 1, 5);
        x.draw(0, 2, 1, 0, 4);
        x.take(0, false);
        x.take(1, false);
        Debts.grow(x, 0, 1, Debts.MOST);
        x.days(7);
        due.is("owes", 1000000000L, x.owes(0, 1));
        due.is("pay above the most", Due.FULL, x.pay(0));
        due.is("owe above the most", Due.FULL, x.owe(0, 1, 1));
        due.is("owes still", 1000000000L, x.owes(0, 1));
        due.is("taken still", 1, x.about(0, 5));
        due.is("pay the other way", 4, x.pay(1));
        due.is("pay above the most still", Due.FULL, x.pay(0));
        due.is("owe the other way", 0, x.owe(1, 0, 1));
        due.is("pay up to the most", 5, x.pay(0));
        due.is("owes", 1000000000L, x.owes(0, 1));
        due.is("found(4)", 3, x.found(4));
    }

    private static void payOfHeapedDebt() {
        ChangerFair x = new ChangerFair();
        Debts.heap(x, 10);
        x.draw(0, 2, 1, 0, 9);
        x.draw(2, 2, 1, 0, 10);
        x.draw(0, 2, 0, 1, 1);
        x.draw(0, 2, 1, 1, 5);
        for (int bill = 0; bill < 4; bill++) {
            x.take(bill, false);
        }
        due.is("DAY is asked before FULL", Due.DAY, x.pay(0));
        x.days(7);
        due.is("9 less leave 1 too many", Due.FULL, x.pay(0));
        due.is("1 more", Due.FULL, x.pay(2));
        due.is("taken still", 1, x.about(0, 5));
        due.is("owes still", 1000000010L, x.owes(0, 1));
        due.is("nothing is owed to oneself", 0, x.pay(3));
        due.is("10 less leave just the most", 10, x.pay(1));
        due.is("owes", 1000000000L, x.owes(0, 1));
        due.is("9 less", 9, x.pay(0));
        due.is("owes", 999999991L, x.owes(0, 1));
        due.is("found(4)", 2, x.found(4));
    }

    private static void recourseOfHeapedDebt() {
        ChangerFair x = new ChangerFair();
        Debts.heap(x, 10);
        x.draw(0, 1, 3, 0, 9);
        x.draw(0, 2, 3, 1, 9);
        x.pass(1, 0);
        x.draw(0, 2, 3, 1, 10);
        x.pass(2, 0);
        for (int bill = 0; bill < 3; bill++) {
            x.take(bill, true);
            x.protest(bill);
        }
        due.is("the drawer: 9 less leave 1 too many", Due.FULL, x.recourse(0, -1));
        due.is("protested still", 3, x.about(0, 5));
        due.is("the endorser: 9 less leave 1 too many", Due.FULL, x.recourse(1, 0));
        due.is("holder still", 0, x.about(1, 3));
        due.is("endorsers still", 1, x.about(1, 6));
        due.is("owes still", 1000000010L, x.owes(0, 1));
        due.is("the endorser: 10 less leave just the most", 1, x.recourse(2, 0));
        due.is("owes", 1000000000L, x.owes(0, 1));
        due.is("the drawer: 9 less", 1, x.recourse(0, -1));
        due.is("the endorser: 9 less", 1, x.recourse(1, 0));
        due.is("owes", 999999982L, x.owes(0, 1));
        due.is("found(4)", 2, x.found(4));
    }

    private static void protest() {
        ChangerFair x = new ChangerFair();
        x.draw(0, 0, 1, 2, 10);
        x.draw(0, 0, 1, 2, 10);
        due.is("protest what is drawn", Due.STATE, x.protest(0));
        x.take(0, false);
        due.is("protest what is taken", Due.STATE, x.protest(0));
        x.days(3);
        x.take(1, true);
        x.days(60);
        due.is("protest", 60, x.protest(1));
        due.is("again", Due.STATE, x.protest(1));
        due.is("state", 3, x.about(1, 5));
        due.is("day", 63, x.about(1, 11));
        due.is("no such bill", Due.BEYOND, x.protest(2));
        due.is("no such bill", Due.BEYOND, x.protest(-1));
    }

    private static ChangerFair protested(int kind, int amount) {
        ChangerFair x = new ChangerFair();
        x.draw(kind, 0, 1, 2, amount);
        x.pass(0, 3);
        x.pass(0, 4);
        x.pass(0, 5);
        x.pass(0, 6);
        x.take(0, true);
        x.protest(0);
        return x;
    }

    private static void recourseBack() {
        ChangerFair x = protested(0, 50);
        due.is("no such bill", Due.BEYOND, x.recourse(1, 0));
        due.is("no such bill", Due.BEYOND, x.recourse(-1, -1));
        due.is("endorser 4", Due.NONE, x.recourse(0, 4));
        due.is("endorser -2", Due.NONE, x.recourse(0, -2));
        due.is("endorser MAX", Due.NONE, x.recourse(0, Integer.MAX_VALUE));
        due.is("endorser 2", 4, x.recourse(0, 2));
        due.is("owes", 50, x.owes(4, 6));
        due.is("holder", 4, x.about(0, 3));
        due.is("endorsers", 2, x.about(0, 6));
        due.is("endorser 2 is none", Due.NONE, x.about(0, 9));
        due.is("protested still", 3, x.about(0, 5));
        due.is("the one behind", Due.NONE, x.recourse(0, 3));
        due.is("the drawer", 0, x.recourse(0, -1));
        due.is("owes", 50, x.owes(0, 4));
        due.is("paid", 4, x.about(0, 5));
        due.is("holder stays", 4, x.about(0, 3));
        due.is("endorsers stay", 2, x.about(0, 6));
        due.is("again", Due.STATE, x.recourse(0, 0));
        due.is("STATE is asked before NONE", Due.STATE, x.recourse(0, 7));
        ChangerFair y = new ChangerFair();
        y.draw(0, 0, 1, 2, 5);
        due.is("recourse of a drawn one", Due.STATE, y.recourse(0, -1));
        y.take(0, true);
        due.is("recourse of a refused one", Due.STATE, y.recourse(0, -1));
        y.draw(BEARER, 0, 1, 2, 5);
        y.pass(1, 3);
        y.take(1, true);
        y.protest(1);
        due.is("a bearer has no endorser", Due.NONE, y.recourse(1, 0));
        due.is("a bearer's drawer", 0, y.recourse(1, -1));
        due.is("owes the holder", 5, y.owes(0, 3));
    }

    private static void recourseFreed() {
        ChangerFair x = new ChangerFair();
        x.road(3, 9);
        x.seat(4, 3);
        x.draw(0, 0, 1, 2, 50);
        x.draw(2, 0, 1, 2, 51);
        for (int bill = 0; bill < 2; bill++) {
            x.pass(bill, 3);
            x.pass(bill, 4);
            x.pass(bill, 5);
            x.pass(bill, 2);
        }
        x.take(0, true);
        x.days(2);
        x.take(1, true);
        x.days(3);
        x.protest(0);
        x.days(1);
        x.protest(1);
        x.days(20);
        Due.read(x, "free if kind = 2 and hops > 2; free if late = 5 and hops = 1;"
                + "free if road > 8; free if amount = 51 and hops = 0 and late = 4");
        due.is("hops 1, late 5", Due.KIND, x.recourse(0, 1));
        due.is("road 9", Due.KIND, x.recourse(0, 2));
        due.is("NONE is asked before KIND", Due.NONE, x.recourse(0, 4));
        due.is("kind 2, hops 3", Due.KIND, x.recourse(1, 3));
        due.is("kind 0, hops 3 is bound", 5, x.recourse(0, 3));
        due.is("owes", 50, x.owes(5, 2));
        due.is("late 4, amount 51", Due.KIND, x.recourse(1, 0));
        due.is("late 5, amount 50 is bound", 2, x.recourse(0, 0));
        due.is("nothing has changed of bill 1", 4, x.about(1, 6));
        due.is("holder of bill 1", 2, x.about(1, 3));
        x.road(3, 8);
        due.is("road 8 is bound now", 4, x.recourse(1, 2));
        Due.read(x, "free");
        due.is("all are free", Due.KIND, x.recourse(1, 0));
        due.is("the drawer is always bound", 0, x.recourse(1, -1));
        due.is("found(5)", 5, x.found(5));
    }

    private static void recourseSame() {
        ChangerFair x = new ChangerFair();
        x.draw(0, 0, 1, 2, 50);
        x.pass(0, 0);
        x.pass(0, 2);
        x.pass(0, 0);
        x.take(0, true);
        x.protest(0);
        due.is("endorser 1 is the holder", 0, x.recourse(0, 1));
        due.is("nothing is owed", 0, x.count(3));
        due.is("holder", 0, x.about(0, 3));
        due.is("endorsers", 1, x.about(0, 6));
        due.is("the drawer is the holder", 0, x.recourse(0, -1));
        due.is("nothing is owed", 0, x.count(3));
        due.is("paid", 4, x.about(0, 5));
    }

    private static void recourseFull() {
        ChangerFair x = new ChangerFair();
        x.draw(0, 0, 5, 2, 5);
        x.pass(0, 0);
        x.pass(0, 1);
        x.take(0, true);
        x.protest(0);
        Debts.grow(x, 0, 1, Debts.MOST);
        x.days(7);
        due.is("endorser 1 can't owe more", Due.FULL, x.recourse(0, 1));
        due.is("the drawer can't owe more", Due.FULL, x.recourse(0, -1));
        due.is("protested still", 3, x.about(0, 5));
        due.is("holder still", 1, x.about(0, 3));
        due.is("endorsers still", 2, x.about(0, 6));
        Due.read(x, "free if hops = 1");
        due.is("KIND is asked before FULL", Due.KIND, x.recourse(0, 1));
        due.is("endorser 0", 2, x.recourse(0, 0));
        due.is("the drawer", 0, x.recourse(0, -1));
        due.is("owes", 5, x.owes(0, 2));
    }

    private static void about() {
        ChangerFair x = new ChangerFair();
        x.days(3);
        x.draw(2, 7, 8, 9, 1234);
        long[] want = {2, 7, 8, 9, 1234, 0, 0, Due.NONE, Due.NONE, Due.NONE, Due.NONE, 3};
        for (int what = 0; what < want.length; what++) {
            due.is("about(0, " + what + ")", want[what], x.about(0, what));
        }
        x.days(1);
        x.pass(0, 1);
        due.is("endorser 0", 9, x.about(0, 7));
        due.is("endorser 1", Due.NONE, x.about(0, 8));
        due.is("passing on changes no day", 3, x.about(0, 11));
        x.take(0, false);
        due.is("the day of TAKEN", 4, x.about(0, 11));
        due.is("about(0, 12)", Due.BEYOND, x.about(0, 12));
        due.is("about(0, -1)", Due.BEYOND, x.about(0, -1));
        due.is("about(1, 0)", Due.BEYOND, x.about(1, 0));
        due.is("about(-1, 0)", Due.BEYOND, x.about(-1, 0));
        due.is("BEYOND is asked before NONE", Due.BEYOND, x.about(1, 7));
    }

    private static void as() {
        ChangerFair x = new ChangerFair();
        for (int kind = 0; kind < 3; kind++) {
            x.draw(kind, 0, 1, 2, 100 + kind);
        }
        for (int bill = 0; bill < 3; bill++) {
            for (int kind = 0; kind < 3; kind++) {
                long want = kind == 0 || kind == bill ? 100 + bill : Due.KIND;
                due.is("as(" + bill + ", " + kind + ")", want, x.as(bill, kind));
            }
            due.is("kind 3", Due.BEYOND, x.as(bill, 3));
            due.is("kind -1", Due.BEYOND, x.as(bill, -1));
        }
        due.is("no such bill", Due.BEYOND, x.as(3, 0));
        due.is("no such bill", Due.BEYOND, x.as(-1, 0));
    }

    private static void knows() {
        ChangerFair x = new ChangerFair();
        x.road(1, 30);
        x.seat(5, 1);
        x.days(2);
        x.draw(0, 5, 1, 2, 10);
        x.days(1);
        x.take(0, true);
        x.days(10);
        x.protest(0);
        x.recourse(0, -1);
        due.is("before", Due.NONE, x.knows(0, 0, 1));
        due.is("drawn", 0, x.knows(0, 0, 2));
        due.is("refused", 2, x.knows(0, 0, 3));
        due.is("refused still", 2, x.knows(0, 0, 12));
        due.is("protested and paid on one day", 4, x.knows(0, 0, 13));
        due.is("far: before, though it has drawn it", Due.NONE, x.knows(5, 0, 31));
        due.is("far: drawn", 0, x.knows(5, 0, 32));
        due.is("far: refused", 2, x.knows(5, 0, 33));
        due.is("far: refused still", 2, x.knows(5, 0, 42));
        due.is("far: paid", 4, x.knows(5, 0, 43));
        due.is("on the last day", 4, x.knows(5, 0, Integer.MAX_VALUE));
        due.is("far: day 0", Due.NONE, x.knows(5, 0, 0));
        due.is("day -1", Due.BEYOND, x.knows(0, 0, -1));
        due.is("house 10", Due.BEYOND, x.knows(10, 0, 0));
        due.is("house -1", Due.BEYOND, x.knows(-1, 0, 0));
        due.is("bill 1", Due.BEYOND, x.knows(0, 1, 0));
        due.is("bill -1", Due.BEYOND, x.knows(0, -1, 0));
    }

    private static void knowsAfterMoves() {
        ChangerFair x = new ChangerFair();
        x.draw(0, 0, 1, 2, 10);
        x.take(0, false);
        due.is("what hasn't been isn't known", 1, x.knows(3, 0, 1000));
        x.days(8);
        x.pay(0);
        due.is("taken, not drawn, on one day", 1, x.knows(3, 0, 0));
        due.is("taken", 1, x.knows(3, 0, 7));
        due.is("paid", 4, x.knows(3, 0, 8));
        x.seat(3, 2);
        x.road(2, 8);
        due.is("the seat of now counts", 1, x.knows(3, 0, 8));
        due.is("the road of now counts", Due.NONE, x.knows(3, 0, 7));
    }
}
