/** One fair, from a bill that is drawn to debts that are cleared. */
public final class OneFair {
    private static final long LOW = -1000000000000L;

    public static void main(String[] args) {
        ChangerFair fair = new ChangerFair();

        // House 0 draws a bill of 500 on house 1 for house 2, which passes it on to house 3.
        int bill = (int) fair.draw(0, 0, 1, 2, 500);
        tell("bill", bill);
        tell("endorsers", fair.pass(bill, 3));
        tell("state", fair.take(bill, false));

        // Bills are paid on days 7 .. 27 of a fair: on day 0 that is refused, and nothing changes.
        tell("pay on day 0", fair.pay(bill));
        tell("day", fair.days(7));
        tell("pay on day 7", fair.pay(bill));
        tell("house 1 owes house 3", fair.owes(1, 3));

        // House 3 owes house 1 some of it: only what one of them owes more stays.
        tell("house 3 owes house 1", fair.owe(3, 1, 120));
        tell("house 1 owes house 3", fair.owes(1, 3));

        // The custom is a text; it comes eight bytes at a time.
        feed(fair, "free if late > 3 and hops < 2; bind");
        tell("clauses", fair.read());
        tell("binds, 3 days late", fair.binds(3, 500, 0, 0, 0));
        tell("binds, 4 days late", fair.binds(4, 500, 0, 0, 0));
        feed(fair, "bind if late 3");
        tell("another text", fair.read());
        tell("its fault stands at", fair.fault());

        // House 3 owes house 4 as much: the plan lets house 1 pay house 4 at once.
        fair.owe(3, 4, 380);
        tell("payments", fair.plan(false));
        tell("who pays", fair.payment(0, 0));
        tell("whom", fair.payment(0, 1));
        tell("how much", fair.payment(0, 2));
        tell("owed in all, cleared", fair.clear());

        // What is owed still is carried to the next fair with its gain of 20 by 1000.
        tell("day", fair.days(21));
        tell("house 1 owes house 4", fair.owes(1, 4));
        tell("findings DAY so far", fair.found(7));
    }

    private static void tell(String what, long answer) {
        boolean isFinding = answer <= LOW;
        System.out.println(what + ": " + (isFinding ? "finding " + (LOW - answer) : answer));
    }

    private static void feed(ChangerFair fair, String text) {
        for (int at = 0; at < text.length(); at += 8) {
            int n = Math.min(8, text.length() - at);
            long eight = 0;
            for (int i = n - 1; i >= 0; i--) {
                eight = eight << 8 | text.charAt(at + i);
            }
            fair.feed(eight, n);
        }
    }
}
