import java.util.Arrays;

/** Edges of promises 6 to 14 (bills). */
final class BillsEdges {
    private static final int BILL = 0;
    private static final int BEARER = 1;
    private static final int PLEDGE = 2;

    private final Sentences s;

    BillsEdges(Sentences s) {
        this.s = s;
    }

    void run() {
        drawNumbers();
        drawBeyond();
        drawKind();
        drawFull();
        billBehindTheLast();
        passEndorsers();
        passBeyond();
        passState();
        passKind();
        passFull();
        takeStates();
        takeBeyond();
        takeState();
        takeDay();
        payOwed();
        payBeyond();
        payState();
        payDay();
        payFull();
        payHeaped();
        protestDays();
        protestBeyond();
        protestState();
        recourseHouse();
        recourseBeyond();
        recourseState();
        recourseNone();
        recourseKind();
        recourseFull();
        recourseHeaped();
        aboutWhat();
        aboutEndorsers();
        aboutStateDay();
        aboutBeyond();
        asKinds();
        knowsLatest();
        knowsBeyond();
        knowsNone();
    }

    /** Bill 0 of a kind: house 0 has drawn it on house 1 for house 2. */
    private static ChangerFair drawn(int kind, int amount) {
        ChangerFair x = new ChangerFair();
        x.draw(kind, 0, 1, 2, amount);
        return x;
    }

    private static ChangerFair taken(int kind, int amount) {
        ChangerFair x = drawn(kind, amount);
        x.take(0, false);
        return x;
    }

    private static ChangerFair refused(int kind, int amount) {
        ChangerFair x = drawn(kind, amount);
        x.take(0, true);
        return x;
    }

    private static ChangerFair protested(int kind, int amount) {
        ChangerFair x = refused(kind, amount);
        x.protest(0);
        return x;
    }

    private static ChangerFair paid(int kind, int amount) {
        ChangerFair x = taken(kind, amount);
        x.days(7);
        x.pay(0);
        return x;
    }

    private static ChangerFair paidByRecourse(int kind, int amount) {
        ChangerFair x = protested(kind, amount);
        x.recourse(0, -1);
        return x;
    }

    /** Objects whose bill 0 is DRAWN, TAKEN, REFUSED, PROTESTED, PAID by pay(), PAID by recourse(). */
    private static ChangerFair[] allStates() {
        return new ChangerFair[] {drawn(BILL, 5), taken(BILL, 5), refused(BILL, 5), protested(BILL, 5),
            paid(BILL, 5), paidByRecourse(BILL, 5)};
    }

    private void drawNumbers() {
        s.promise(6, "A BILL is drawn: its number.");
        ChangerFair x = new ChangerFair();
        s.ask(x, 0, "draw", BILL, 0, 9, 9, 1);
        s.ask(x, 1, "draw", PLEDGE, 9, 0, 0, 100000);
        s.ask(x, 2, "draw", BEARER, 9, 9, 0, 2);
        s.ask(x, 3, "draw", BILL, 0, 0, 9, 99999);
        s.ask(x, 4, "count", 1);
    }

    private void drawBeyond() {
        s.promise(6, "BEYOND: there is no such kind or house (any), or amount isn't as told.");
        ChangerFair x = new ChangerFair();
        s.ask(x, Due.BEYOND, "draw", -1, 0, 1, 2, 5);
        s.ask(x, Due.BEYOND, "draw", 3, 0, 1, 2, 5);
        s.ask(x, Due.BEYOND, "draw", 0, -1, 1, 2, 5);
        s.ask(x, Due.BEYOND, "draw", 0, 10, 1, 2, 5);
        s.ask(x, Due.BEYOND, "draw", 0, 0, -1, 2, 5);
        s.ask(x, Due.BEYOND, "draw", 0, 0, 10, 2, 5);
        s.ask(x, Due.BEYOND, "draw", 0, 0, 1, -1, 5);
        s.ask(x, Due.BEYOND, "draw", 0, 0, 1, 10, 5);
        s.ask(x, Due.BEYOND, "draw", 0, 0, 1, 2, 0);
        s.ask(x, Due.BEYOND, "draw", 0, 0, 1, 2, -1);
        s.ask(x, Due.BEYOND, "draw", 0, 0, 1, 2, 100001);
        s.ask(x, Due.BEYOND, "draw", 0, 0, 1, 2, Integer.MIN_VALUE);
        s.ask(x, Due.BEYOND, "draw", 0, 0, 1, 2, Integer.MAX_VALUE);
        s.ask(x, Due.BEYOND, "draw", Integer.MAX_VALUE, Integer.MIN_VALUE, 1, 2, 5);
        s.ask(x, 0, "count", 1);
    }

    private void drawKind() {
        s.promise(6, "KIND: drawer and payee (the first HOLDER) are the same.");
        ChangerFair x = new ChangerFair();
        s.ask(x, Due.KIND, "draw", BILL, 0, 1, 0, 5);
        s.ask(x, Due.KIND, "draw", BEARER, 9, 1, 9, 5);
        s.ask(x, Due.KIND, "draw", PLEDGE, 4, 4, 4, 5);
        s.ask(x, 0, "count", 1);
        s.is("the drawee may be the drawer", 0, x.draw(BILL, 4, 4, 5, 5));
        s.is("the drawee may be the payee", 1, x.draw(BILL, 4, 5, 5, 5));
        s.is("the payee is the holder", 5, x.about(1, 3));
    }

    private void drawFull() {
        s.promise(6, "FULL.");
        ChangerFair x = new ChangerFair();
        for (int bill = 0; bill < 40; bill++) {
            s.ask(x, bill, "draw", bill % 3, 0, 1, 2, 1 + bill);
        }
        s.ask(x, Due.FULL, "draw", 0, 0, 1, 2, 5);
        s.ask(x, Due.FULL, "draw", 0, 0, 1, 2, 5);
        s.ask(x, 40, "count", 1);
        s.ask(x, 40, "about", 39, 4);
        x.take(0, false);
        x.days(7);
        x.pay(0);
        s.is("a bill that is paid makes no room", Due.FULL, x.draw(0, 0, 1, 2, 5));
    }

    /** With all 40 drawn there is no bill 40 either. */
    private void billBehindTheLast() {
        ChangerFair x = new ChangerFair();
        for (int bill = 0; bill < 40; bill++) {
            x.draw(BILL, 0, 1, 2, 5);
        }
        for (int bill = 40; bill <= 41; bill++) {
            s.promise(7, "BEYOND: there is no such BILL or house.");
            s.ask(x, Due.BEYOND, "pass", bill, 3);
            s.promise(8, "BEYOND.");
            s.ask(x, Due.BEYOND, "take", bill, 0);
            s.promise(9, "BEYOND.");
            s.ask(x, Due.BEYOND, "pay", bill);
            s.promise(10, "BEYOND.");
            s.ask(x, Due.BEYOND, "protest", bill);
            s.promise(11, "BEYOND: there is no such BILL.");
            s.ask(x, Due.BEYOND, "recourse", bill, -1);
            s.promise(12, "BEYOND: there is no such BILL, or another what.");
            s.ask(x, Due.BEYOND, "about", bill, 0);
            s.promise(13, "BEYOND: there is no such BILL, or kind.");
            s.ask(x, Due.BEYOND, "as", bill, 0);
            s.promise(14, "BEYOND: there is no such BILL or house, or day is below 0.");
            s.ask(x, Due.BEYOND, "knows", 0, bill, 0);
        }
        s.is("bill 39 is there", 0, x.knows(0, 39, 0));
    }

    private void passEndorsers() {
        s.promise(7, "A BILL is passed on to a house: how many ENDORSERS it has.");
        for (int kind = BILL; kind <= PLEDGE; kind += PLEDGE) {
            ChangerFair x = drawn(kind, 5);
            s.ask(x, 1, "pass", 0, 0);
            s.ask(x, 2, "pass", 0, 9);
            x.take(0, false);
            x.days(60);
            s.ask(x, 3, "pass", 0, 1);
            s.ask(x, 4, "pass", 0, 2);
        }
        ChangerFair bearer = drawn(BEARER, 5);
        s.ask(bearer, 0, "pass", 0, 0);
        bearer.take(0, false);
        s.ask(bearer, 0, "pass", 0, 9);
        s.ask(bearer, 9, "about", 0, 3);
    }

    private void passBeyond() {
        s.promise(7, "BEYOND: there is no such BILL or house.");
        s.is("no bill at all", Due.BEYOND, new ChangerFair().pass(0, 1));
        ChangerFair x = drawn(BILL, 5);
        s.ask(x, Due.BEYOND, "pass", -1, 3);
        s.ask(x, Due.BEYOND, "pass", 1, 3);
        s.ask(x, Due.BEYOND, "pass", 40, 3);
        s.ask(x, Due.BEYOND, "pass", Integer.MIN_VALUE, 3);
        s.ask(x, Due.BEYOND, "pass", Integer.MAX_VALUE, 3);
        s.ask(x, Due.BEYOND, "pass", 0, -1);
        s.ask(x, Due.BEYOND, "pass", 0, 10);
        s.ask(x, 2, "about", 0, 3);
        s.ask(x, 0, "about", 0, 6);
    }

    private void passState() {
        s.promise(7, "STATE: it isn't DRAWN or TAKEN.");
        long[] want = {1, 1, Due.STATE, Due.STATE, Due.STATE, Due.STATE};
        ChangerFair[] x = allStates();
        for (int i = 0; i < x.length; i++) {
            s.ask(x[i], want[i], "pass", 0, 3);
            s.ask(x[i], want[i] == 1 ? 3 : 2, "about", 0, 3);
        }
        s.is("a bearer is no other", Due.STATE, refused(BEARER, 5).pass(0, 3));
    }

    private void passKind() {
        s.promise(7, "KIND: the house is its HOLDER.");
        for (int kind = BILL; kind <= PLEDGE; kind++) {
            ChangerFair x = drawn(kind, 5);
            s.ask(x, Due.KIND, "pass", 0, 2);
            s.ask(x, kind == BEARER ? 0 : 1, "pass", 0, 3);
            s.ask(x, Due.KIND, "pass", 0, 3);
            s.is("back to an endorser", kind == BEARER ? 0 : 2, x.pass(0, 2));
            s.ask(x, Due.KIND, "pass", 0, 2);
        }
    }

    private void passFull() {
        s.promise(7, "FULL: it has 4 (not of a BEARER).");
        for (int kind = BILL; kind <= PLEDGE; kind++) {
            ChangerFair x = drawn(kind, 5);
            for (int i = 1; i <= 4; i++) {
                s.ask(x, kind == BEARER ? 0 : i, "pass", 0, 2 + i);
            }
            s.ask(x, kind == BEARER ? 0 : Due.FULL, "pass", 0, 7);
            s.ask(x, kind == BEARER ? 7 : 6, "about", 0, 3);
            s.ask(x, kind == BEARER ? 0 : 4, "about", 0, 6);
        }
    }

    private void takeStates() {
        s.promise(8, "A BILL is TAKEN (or REFUSED): its STATE.");
        ChangerFair x = drawn(BILL, 5);
        s.ask(x, 1, "take", 0, 0);
        s.ask(x, 1, "about", 0, 5);
        ChangerFair y = drawn(BILL, 5);
        s.ask(y, 2, "take", 0, 1);
        s.ask(y, 2, "about", 0, 5);
        s.is("nothing is owed by that", 0, x.count(3) + y.count(3));
    }

    private void takeBeyond() {
        s.promise(8, "BEYOND.");
        s.is("no bill at all", Due.BEYOND, new ChangerFair().take(0, false));
        ChangerFair x = drawn(BILL, 5);
        s.ask(x, Due.BEYOND, "take", -1, 0);
        s.ask(x, Due.BEYOND, "take", 1, 1);
        s.ask(x, Due.BEYOND, "take", Integer.MIN_VALUE, 0);
        s.ask(x, Due.BEYOND, "take", Integer.MAX_VALUE, 1);
        s.ask(x, 0, "about", 0, 5);
    }

    private void takeState() {
        s.promise(8, "STATE: it isn't DRAWN.");
        ChangerFair[] x = allStates();
        long[] states = {0, 1, 2, 3, 4, 4};
        for (int i = 1; i < x.length; i++) {
            s.ask(x[i], Due.STATE, "take", 0, 0);
            s.ask(x[i], Due.STATE, "take", 0, 1);
            s.ask(x[i], states[i], "about", 0, 5);
        }
        s.ask(x[0], 1, "take", 0, 0);
    }

    private void takeDay() {
        s.promise(8, "DAY: it isn't day 0 .. 6 of a fair.");
        int[] days = {0, 6, 7, 27, 28, 34, 35, 55, 56};
        for (int day : days) {
            for (int refused = 0; refused <= 1; refused++) {
                ChangerFair x = drawn(BILL, 5);
                if (day > 0) {
                    x.days(day);
                }
                boolean early = day % 28 <= 6;
                s.is("on day " + day, early ? 1 + refused : Due.DAY, x.take(0, refused == 1));
                s.is("state on day " + day, early ? 1 + refused : 0, x.about(0, 5));
            }
        }
    }

    private void payOwed() {
        s.promise(9, "A BILL is PAID: what is owed for it.");
        for (int kind = BILL; kind <= PLEDGE; kind++) {
            ChangerFair x = taken(kind, 100000);
            x.days(7);
            s.ask(x, 100000, "pay", 0);
            s.ask(x, 100000, "owes", 1, 2);
            s.ask(x, 4, "about", 0, 5);
        }
        ChangerFair least = taken(BILL, 1);
        least.days(7);
        s.ask(least, 1, "pay", 0);
        ChangerFair same = taken(BILL, 5);
        same.pass(0, 1);
        same.days(7);
        s.is("the drawee holds it", 0, same.pay(0));
        s.is("nothing is owed", 0, same.count(3));
        s.is("paid", 4, same.about(0, 5));
    }

    private void payBeyond() {
        s.promise(9, "BEYOND.");
        s.is("no bill at all", Due.BEYOND, new ChangerFair().pay(0));
        ChangerFair x = taken(BILL, 5);
        x.days(7);
        s.ask(x, Due.BEYOND, "pay", -1);
        s.ask(x, Due.BEYOND, "pay", 1);
        s.ask(x, Due.BEYOND, "pay", Integer.MIN_VALUE);
        s.ask(x, Due.BEYOND, "pay", Integer.MAX_VALUE);
        s.ask(x, 0, "count", 3);
    }

    private void payState() {
        s.promise(9, "STATE: it isn't TAKEN.");
        ChangerFair[] x = allStates();
        for (int i = 0; i < x.length; i++) {
            x[i].days(7);
            long owed = x[i].count(3);
            s.ask(x[i], i == 1 ? 5 : Due.STATE, "pay", 0);
            s.ask(x[i], i == 1 ? 5 : owed, "count", 3);
        }
    }

    private void payDay() {
        s.promise(9, "DAY: it is day 0 .. 6.");
        int[] days = {0, 6, 7, 27, 28, 34, 35, 55, 56};
        for (int day : days) {
            ChangerFair x = taken(BILL, 5);
            if (day > 0) {
                x.days(day);
            }
            boolean early = day % 28 <= 6;
            s.is("on day " + day, early ? Due.DAY : 5, x.pay(0));
            s.is("state on day " + day, early ? 1 : 4, x.about(0, 5));
            s.is("owed on day " + day, early ? 0 : 5, x.owes(1, 2));
        }
    }

    /**
     * House 0 owes house 1 some less than the most; bill 0 makes that more, bill 1 less, both taken; it
     * is day 7 of a fair.
     */
    private static ChangerFair nearlyFull(int less, int amountMore, int amountLess) {
        ChangerFair x = Debts.full();
        if (less > 0) {
            x.owe(1, 0, less);
        }
        x.draw(BILL, 2, 0, 1, amountMore);
        x.draw(BILL, 2, 1, 0, amountLess);
        x.take(0, false);
        x.take(1, false);
        x.days(7);
        return x;
    }

    private void payFull() {
        s.promise(9, "FULL: a debt would be above 1000000000.");
        ChangerFair x = nearlyFull(10, 11, 1);
        s.is("one too many", Due.FULL, x.pay(0));
        s.is("taken still", 1, x.about(0, 5));
        s.is("owes still", 999999990, x.owes(0, 1));
        s.is("what is owed becomes less", 1, x.pay(1));
        s.is("just up to the most", 11, x.pay(0));
        s.is("owes", Debts.MOST, x.owes(0, 1));
        s.is("found(4)", 1, x.found(4));
        ChangerFair y = nearlyFull(0, 1, 100000);
        s.is("it is full", Due.FULL, y.pay(0));
        s.is("the other way", 100000, y.pay(1));
        s.is("owes", 999900000, y.owes(0, 1));
        y.draw(BILL, 2, 0, 3, 100000);
        y.days(21);
        y.take(2, false);
        y.days(7);
        s.is("another debt has its own room", 100000, y.pay(2));
    }

    private void payHeaped() {
        s.promise(9, "FULL: a debt would be above 1000000000.");
        ChangerFair x = Debts.heaped(100);
        x.draw(BILL, 2, 1, 0, 99);
        x.draw(BILL, 2, 1, 0, 100);
        x.draw(BILL, 2, 3, 4, 5);
        x.draw(BILL, 2, 0, 0, 5);
        for (int bill = 0; bill < 4; bill++) {
            x.take(bill, false);
        }
        x.days(7);
        s.is("99 less leave one too many", Due.FULL, x.pay(0));
        s.is("owes still", Debts.MOST + 100, x.owes(0, 1));
        s.is("two other houses", 5, x.pay(2));
        s.is("nothing is owed to oneself", 0, x.pay(3));
        s.is("100 less leave just the most", 100, x.pay(1));
        s.is("owes", Debts.MOST, x.owes(0, 1));
    }

    private void protestDays() {
        s.promise(10, "A BILL is PROTESTED: how many days it was REFUSED.");
        int[] days = {0, 1, 27, 28, 60};
        for (int late : days) {
            ChangerFair x = drawn(BILL, 5);
            x.days(6);
            x.take(0, true);
            if (late > 0) {
                x.days(late);
            }
            s.is("protest() " + late + " days later", late, x.protest(0));
            s.is("state", 3, x.about(0, 5));
            s.is("its day", 6 + late, x.about(0, 11));
        }
    }

    private void protestBeyond() {
        s.promise(10, "BEYOND.");
        s.is("no bill at all", Due.BEYOND, new ChangerFair().protest(0));
        ChangerFair x = refused(BILL, 5);
        s.ask(x, Due.BEYOND, "protest", -1);
        s.ask(x, Due.BEYOND, "protest", 1);
        s.ask(x, Due.BEYOND, "protest", Integer.MIN_VALUE);
        s.ask(x, Due.BEYOND, "protest", Integer.MAX_VALUE);
        s.ask(x, 2, "about", 0, 5);
    }

    private void protestState() {
        s.promise(10, "STATE: it isn't REFUSED.");
        ChangerFair[] x = allStates();
        for (int i = 0; i < x.length; i++) {
            s.ask(x[i], i == 2 ? 0 : Due.STATE, "protest", 0);
        }
    }

    /** Bill 0 of house 0 on house 1, from house 2 on by these houses, protested. */
    private static ChangerFair passedAndProtested(int kind, int amount, int... houses) {
        ChangerFair x = drawn(kind, amount);
        for (int house : houses) {
            x.pass(0, house);
        }
        x.take(0, true);
        x.protest(0);
        return x;
    }

    private void recourseHouse() {
        s.promise(11, "RECOURSE against ENDORSER i (-1: the DRAWER): the house that owes.");
        int[] endorsers = {2, 3, 4, 5};
        for (int i = 0; i < 4; i++) {
            ChangerFair x = passedAndProtested(BILL, 100000, 3, 4, 5, 6);
            s.ask(x, endorsers[i], "recourse", 0, i);
            s.ask(x, 100000, "owes", endorsers[i], 6);
            s.ask(x, endorsers[i], "about", 0, 3);
            s.ask(x, i, "about", 0, 6);
            s.ask(x, Due.NONE, "about", 0, 7 + i);
            s.ask(x, 3, "about", 0, 5);
        }
        ChangerFair x = passedAndProtested(PLEDGE, 1, 3, 4, 5, 6);
        s.ask(x, 0, "recourse", 0, -1);
        s.ask(x, 1, "owes", 0, 6);
        s.ask(x, 4, "about", 0, 5);
    }

    private void recourseBeyond() {
        s.promise(11, "BEYOND: there is no such BILL.");
        s.is("no bill at all", Due.BEYOND, new ChangerFair().recourse(0, -1));
        ChangerFair x = passedAndProtested(BILL, 5, 3);
        s.ask(x, Due.BEYOND, "recourse", -1, 0);
        s.ask(x, Due.BEYOND, "recourse", 1, -1);
        s.ask(x, Due.BEYOND, "recourse", Integer.MIN_VALUE, 0);
        s.ask(x, Due.BEYOND, "recourse", Integer.MAX_VALUE, -1);
        s.ask(x, 0, "count", 3);
    }

    private void recourseState() {
        s.promise(11, "STATE: it isn't PROTESTED.");
        ChangerFair[] x = allStates();
        for (int i = 0; i < x.length; i++) {
            long owed = x[i].count(3);
            s.ask(x[i], i == 3 ? 0 : Due.STATE, "recourse", 0, -1);
            s.ask(x[i], i == 3 ? 5 : owed, "count", 3);
        }
    }

    private void recourseNone() {
        s.promise(11, "NONE: there is no such ENDORSER.");
        s.is("a bill without any", Due.NONE, protested(BILL, 5).recourse(0, 0));
        s.is("a bearer has none", Due.NONE, passedAndProtested(BEARER, 5, 3, 4).recourse(0, 0));
        for (int many = 1; many <= 4; many++) {
            ChangerFair x = passedAndProtested(BILL, 5, Arrays.copyOf(new int[] {3, 4, 5, 6}, many));
            s.ask(x, Due.NONE, "recourse", 0, many);
            s.ask(x, Due.NONE, "recourse", 0, -2);
            s.ask(x, Due.NONE, "recourse", 0, Integer.MIN_VALUE);
            s.ask(x, Due.NONE, "recourse", 0, Integer.MAX_VALUE);
            s.ask(x, 0, "count", 3);
            s.ask(x, 1 + many, "recourse", 0, many - 1);
            s.is("it is none any more", Due.NONE, x.recourse(0, many - 1));
        }
    }

    private void recourseKind() {
        s.promise(11, "KIND: THE CUSTOM frees that.");
        ChangerFair x = passedAndProtested(BILL, 100, 3, 4, 5, 6);
        Due.read(x, "free if amount = 99; free if hops = 3; bind if hops = 2; free if hops > 0");
        s.ask(x, Due.KIND, "recourse", 0, 3);
        s.ask(x, Due.KIND, "recourse", 0, 1);
        s.ask(x, 0, "count", 3);
        s.ask(x, 6, "about", 0, 3);
        s.ask(x, 4, "about", 0, 6);
        s.ask(x, 4, "recourse", 0, 2);
        s.ask(x, 2, "recourse", 0, 0);
        ChangerFair y = passedAndProtested(BILL, 100, 3);
        Due.read(y, "free");
        s.ask(y, Due.KIND, "recourse", 0, 0);
        s.is("the drawer is always bound", 0, y.recourse(0, -1));
    }

    /**
     * House 0 owes house 1 some less than the most; of bill 0 house 0 is the drawer and the second
     * endorser, house 1 the holder.
     */
    private static ChangerFair nearlyFullRecourse(int less, int amount) {
        ChangerFair x = Debts.full();
        if (less > 0) {
            x.owe(1, 0, less);
        }
        x.draw(BILL, 0, 5, 2, amount);
        x.pass(0, 0);
        x.pass(0, 1);
        x.take(0, true);
        x.protest(0);
        return x;
    }

    private void recourseFull() {
        s.promise(11, "FULL: as of pay().");
        for (int i = -1; i <= 1; i += 2) {
            ChangerFair x = nearlyFullRecourse(10, 11);
            s.is("one too many, against " + i, Due.FULL, x.recourse(0, i));
            s.is("protested still", 3, x.about(0, 5));
            s.is("holder still", 1, x.about(0, 3));
            s.is("endorsers still", 2, x.about(0, 6));
            s.is("owes still", 999999990, x.owes(0, 1));
            x.owe(1, 0, 1);
            s.is("just up to the most, against " + i, 0, x.recourse(0, i));
            s.is("owes", Debts.MOST, x.owes(0, 1));
        }
        ChangerFair y = nearlyFullRecourse(0, 1);
        s.is("another endorser has his own room", 2, y.recourse(0, 0));
        s.is("owes", 1, y.owes(2, 1));
    }

    private void recourseHeaped() {
        s.promise(11, "FULL: as of pay().");
        for (int i = -1; i <= 0; i++) {
            for (int amount = 99; amount <= 100; amount++) {
                ChangerFair x = Debts.heaped(100);
                // House 1 owes house 0 by it, be it as the drawer or as the endorser.
                x.draw(BILL, i < 0 ? 1 : 2, 5, i < 0 ? 2 : 1, amount);
                x.pass(0, 0);
                x.take(0, true);
                x.protest(0);
                s.is(amount + " less, against " + i, amount == 99 ? Due.FULL : 1, x.recourse(0, i));
                s.is("owes", amount == 99 ? Debts.MOST + 100 : Debts.MOST, x.owes(0, 1));
            }
        }
    }

    private void aboutWhat() {
        s.promise(12, "Of a BILL: 0 its kind, 1 DRAWER, 2 DRAWEE, 3 HOLDER, 4 AMOUNT, 5 STATE, 6 how many ENDORSERS,");
        ChangerFair x = new ChangerFair();
        x.draw(BILL, 0, 9, 1, 1);
        x.draw(PLEDGE, 9, 0, 8, 100000);
        x.pass(1, 7);
        x.take(1, true);
        long[][] want = {{0, 0, 9, 1, 1, 0, 0}, {2, 9, 0, 7, 100000, 2, 1}};
        for (int bill = 0; bill < 2; bill++) {
            for (int what = 0; what <= 6; what++) {
                s.ask(x, want[bill][what], "about", bill, what);
            }
        }
    }

    private void aboutEndorsers() {
        s.promise(12, "7 .. 10 ENDORSER 0 .. 3 (NONE: there is none such),");
        ChangerFair x = drawn(BILL, 5);
        int[] houses = {2, 9, 0, 2, 1};
        for (int many = 0; many <= 4; many++) {
            for (int i = 0; i < 4; i++) {
                s.ask(x, i < many ? houses[i] : Due.NONE, "about", 0, 7 + i);
            }
            if (many < 4) {
                x.pass(0, houses[many + 1]);
            }
        }
    }

    private void aboutStateDay() {
        s.promise(12, "11 the DAY on which its STATE began.");
        ChangerFair x = drawn(BILL, 5);
        s.ask(x, 0, "about", 0, 11);
        x.days(28);
        s.ask(x, 0, "about", 0, 11);
        x.pass(0, 3);
        s.ask(x, 0, "about", 0, 11);
        x.take(0, true);
        s.ask(x, 28, "about", 0, 11);
        x.days(3);
        x.protest(0);
        s.ask(x, 31, "about", 0, 11);
        x.days(3);
        x.recourse(0, 0);
        s.is("recourse against an endorser begins no state", 31, x.about(0, 11));
        x.recourse(0, -1);
        s.ask(x, 34, "about", 0, 11);
        x.draw(BILL, 0, 1, 2, 5);
        s.ask(x, 34, "about", 1, 11);
        x.take(1, false);
        s.ask(x, 34, "about", 1, 11);
        x.days(1);
        x.pay(1);
        s.ask(x, 35, "about", 1, 11);
    }

    private void aboutBeyond() {
        s.promise(12, "BEYOND: there is no such BILL, or another what.");
        for (int what = -1; what <= 12; what++) {
            s.is("no bill at all", Due.BEYOND, new ChangerFair().about(0, what));
        }
        ChangerFair x = drawn(BILL, 5);
        s.ask(x, Due.BEYOND, "about", -1, 0);
        s.ask(x, Due.BEYOND, "about", 1, 0);
        s.ask(x, Due.BEYOND, "about", Integer.MIN_VALUE, 11);
        s.ask(x, Due.BEYOND, "about", Integer.MAX_VALUE, 11);
        s.ask(x, Due.BEYOND, "about", 0, -1);
        s.ask(x, Due.BEYOND, "about", 0, 12);
        s.ask(x, Due.BEYOND, "about", 0, Integer.MIN_VALUE);
        s.ask(x, Due.BEYOND, "about", 0, Integer.MAX_VALUE);
        s.ask(x, 8, "found", 1);
    }

    private void asKinds() {
        s.promise(13, "A BILL as one of a kind: its AMOUNT.");
        for (int kind = BILL; kind <= PLEDGE; kind++) {
            s.is("of its own kind", 100000, drawn(kind, 100000).as(0, kind));
            s.is("as a BILL", 1, drawn(kind, 1).as(0, BILL));
        }
        s.is("paid still", 7, paid(PLEDGE, 7).as(0, PLEDGE));
        s.promise(13, "BEYOND: there is no such BILL, or kind.");
        s.is("no bill at all", Due.BEYOND, new ChangerFair().as(0, BILL));
        ChangerFair x = drawn(BILL, 5);
        s.ask(x, Due.BEYOND, "as", -1, BILL);
        s.ask(x, Due.BEYOND, "as", 1, BILL);
        s.ask(x, Due.BEYOND, "as", Integer.MAX_VALUE, BILL);
        s.ask(x, Due.BEYOND, "as", 0, -1);
        s.ask(x, Due.BEYOND, "as", 0, 3);
        s.ask(x, Due.BEYOND, "as", 0, Integer.MIN_VALUE);
        s.promise(13, "KIND: it isn't of that kind, nor of one under it.");
        s.is("a BILL isn't a BEARER", Due.KIND, drawn(BILL, 5).as(0, BEARER));
        s.is("a BILL isn't a PLEDGE", Due.KIND, drawn(BILL, 5).as(0, PLEDGE));
        s.is("a BEARER isn't a PLEDGE", Due.KIND, drawn(BEARER, 5).as(0, PLEDGE));
        s.is("a PLEDGE isn't a BEARER", Due.KIND, drawn(PLEDGE, 5).as(0, BEARER));
    }

    private void knowsLatest() {
        s.promise(14, "The latest STATE of a BILL that a house knows on a DAY.");
        ChangerFair x = new ChangerFair();
        x.road(4, 30);
        x.seat(9, 4);
        x.days(1);
        x.draw(BILL, 0, 1, 2, 5);
        x.days(2);
        x.take(0, true);
        x.days(4);
        x.protest(0);
        x.days(5);
        x.recourse(0, -1);
        long[][] days = {{0, Due.NONE}, {1, 0}, {2, 0}, {3, 2}, {6, 2}, {7, 3}, {11, 3}, {12, 4}, {13, 4}};
        for (long[] day : days) {
            s.ask(x, day[1], "knows", 0, 0, day[0]);
            s.ask(x, day[1], "knows", 9, 0, day[0] + 30);
        }
        s.ask(x, 4, "knows", 0, 0, Integer.MAX_VALUE);
        s.ask(x, 4, "knows", 9, 0, Integer.MAX_VALUE);
    }

    private void knowsBeyond() {
        s.promise(14, "BEYOND: there is no such BILL or house, or day is below 0.");
        s.is("no bill at all", Due.BEYOND, new ChangerFair().knows(0, 0, 0));
        ChangerFair x = drawn(BILL, 5);
        s.ask(x, Due.BEYOND, "knows", -1, 0, 0);
        s.ask(x, Due.BEYOND, "knows", 10, 0, 0);
        s.ask(x, Due.BEYOND, "knows", 0, -1, 0);
        s.ask(x, Due.BEYOND, "knows", 0, 1, 0);
        s.ask(x, Due.BEYOND, "knows", 0, Integer.MAX_VALUE, 0);
        s.ask(x, Due.BEYOND, "knows", 0, 0, -1);
        s.ask(x, Due.BEYOND, "knows", 0, 0, Integer.MIN_VALUE);
        s.ask(x, 0, "knows", 0, 0, 0);
        s.ask(x, 0, "knows", 9, 0, 0);
    }

    private void knowsNone() {
        s.promise(14, "NONE: it knows none.");
        ChangerFair x = new ChangerFair();
        x.road(1, 30);
        x.seat(0, 1);
        x.days(10);
        x.draw(BILL, 0, 1, 2, 5);
        s.ask(x, Due.NONE, "knows", 1, 0, 9);
        s.ask(x, 0, "knows", 1, 0, 10);
        s.ask(x, Due.NONE, "knows", 0, 0, 0);
        s.ask(x, Due.NONE, "knows", 0, 0, 10);
        s.ask(x, Due.NONE, "knows", 0, 0, 39);
        s.ask(x, 0, "knows", 0, 0, 40);
    }
}
