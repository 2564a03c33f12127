/** Edges of promises 34 to 37 (what is told). */
final class TellEdges {
    private final Sentences s;

    TellEdges(Sentences s) {
        this.s = s;
    }

    void run() {
        tell();
        checkRight();
        checkWrong();
        checkMore();
        checkOfManyPayments();
        countWhat();
        countEdges();
        found();
    }

    private void tell() {
        s.promise(34, "One more number waits: how many.");
        ChangerFair x = new ChangerFair();
        int[] numbers = {0, -1, Integer.MIN_VALUE, Integer.MAX_VALUE};
        for (int i = 1; i <= 30; i++) {
            s.ask(x, i, "tell", numbers[i % 4]);
        }
        s.promise(34, "FULL: 30 wait.");
        s.ask(x, Due.FULL, "tell", 0);
        s.ask(x, Due.FULL, "tell", 0);
        s.ask(x, 30, "count", 4);
        x.check();
        s.is("none wait any more", 1, x.tell(0));
    }

    private static void tellAll(ChangerFair x, int... numbers) {
        for (int number : numbers) {
            x.tell(number);
        }
    }

    private void checked(ChangerFair x, long want, int... numbers) {
        tellAll(x, numbers);
        s.is("check() of " + java.util.Arrays.toString(numbers), want, x.check());
        s.is("none wait then", 0, x.count(4));
    }

    /** The plan is: house 0 pays house 1 10, house 2 pays house 3 20. */
    private static ChangerFair twoPayments() {
        ChangerFair x = new ChangerFair();
        x.owe(0, 1, 10);
        x.owe(2, 3, 20);
        return x;
    }

    private void checkRight() {
        s.promise(35, "The numbers that wait (none do then) are THE PLAN's payments, by threes (who, whom, how much):"
                + " 0 if they are;");
        checked(new ChangerFair(), 0);
        ChangerFair x = twoPayments();
        checked(x, 0, 0, 1, 10, 2, 3, 20);
        s.is("the book stays", 30, x.count(3));
        checked(x, 0, 0, 1, 10, 2, 3, 20);
        tellAll(x, 0, 1, 10, 2, 3, 21);
        x.owe(2, 3, 1);
        s.is("the plan of now", 0, x.check());
    }

    private void checkWrong() {
        s.promise(35, "1 and i for the first payment (from 0 on) that isn't, or isn't whole, or is missing;");
        ChangerFair x = twoPayments();
        int[] right = {0, 1, 10, 2, 3, 20};
        for (int i = 0; i < 6; i++) {
            for (int by = -1; by <= 1; by += 2) {
                int[] wrong = right.clone();
                wrong[i] += by;
                checked(x, 1 + i / 3, wrong);
            }
        }
        for (int many = 0; many < 6; many++) {
            checked(x, 1 + many / 3, java.util.Arrays.copyOf(right, many));
        }
        checked(x, 1, 2, 3, 20, 0, 1, 10);
        checked(x, 2, 0, 1, 10, 0, 1, 10);
        checked(x, 1, 0, 1, 11, 2, 3, 21);
    }

    private void checkMore() {
        s.promise(35, "99 if more were told.");
        checked(new ChangerFair(), 99, 0);
        checked(new ChangerFair(), 99, 0, 0, 0);
        ChangerFair x = twoPayments();
        checked(x, 99, 0, 1, 10, 2, 3, 20, 0);
        checked(x, 99, 0, 1, 10, 2, 3, 20, 4, 5, 6);
        s.is("a wrong one goes first", 2, wrongAndMore(x));
        ChangerFair full = new ChangerFair();
        for (int i = 0; i < 30; i++) {
            full.tell(0);
        }
        s.is("30 for an empty plan", 99, full.check());
    }

    private static long wrongAndMore(ChangerFair x) {
        tellAll(x, 0, 1, 10, 2, 3, 21, 0);
        return x.check();
    }

    private void checkOfManyPayments() {
        s.promise(35, "The numbers that wait (none do then) are THE PLAN's payments, by threes (who, whom, how much):");
        int[] numbers = new int[30];
        for (int house = 0; house < 9; house++) {
            numbers[3 * house] = house;
            numbers[3 * house + 1] = 9;
            numbers[3 * house + 2] = 1 << house;
        }
        ChangerFair x = new ChangerFair();
        for (int house = 0; house < 9; house++) {
            x.owe(house, 9, 1 << house);
        }
        checked(x, 0, java.util.Arrays.copyOf(numbers, 27));
        checked(x, 9, java.util.Arrays.copyOf(numbers, 26));
        checked(x, 99, java.util.Arrays.copyOf(numbers, 28));
        checked(x, 99, numbers);
        ChangerFair heaped = new ChangerFair();
        for (int house = 2; house < 10; house++) {
            heaped.owe(0, house, Debts.SEED);
            heaped.owe(house, 1, Debts.SEED);
        }
        long debt = 8 * Debts.carryNear(heaped, Debts.MOST);
        s.is("its low figures are not the payment", 1, checkOf(heaped, (int) debt));
    }

    private static long checkOf(ChangerFair x, int much) {
        tellAll(x, 0, 1, much);
        return x.check();
    }

    private void countWhat() {
        s.promise(36, "0 the DAY, 1 BILLS, 2 CLAUSES, 3 what is owed in all, 4 numbers that wait, 5 bytes of the tape.");
        ChangerFair x = new ChangerFair();
        for (int what = 0; what <= 5; what++) {
            s.ask(x, 0, "count", what);
        }
        x.days(60);
        x.draw(0, 0, 1, 2, 5);
        x.draw(0, 0, 1, 2, 5);
        Due.read(x, "bind;free;bind");
        x.owe(0, 1, 10);
        x.owe(1, 2, 20);
        x.owe(2, 1, 5);
        for (int i = 0; i < 4; i++) {
            x.tell(i);
        }
        x.feed(0, 5);
        long[] want = {60, 2, 3, 25, 4, 5};
        for (int what = 0; what <= 5; what++) {
            s.ask(x, want[what], "count", what);
        }
        s.promise(36, "BEYOND: another what.");
        s.ask(x, Due.BEYOND, "count", -1);
        s.ask(x, Due.BEYOND, "count", 6);
        s.ask(x, Due.BEYOND, "count", Integer.MIN_VALUE);
        s.ask(x, Due.BEYOND, "count", Integer.MAX_VALUE);
    }

    private void countEdges() {
        s.promise(36, "0 the DAY, 1 BILLS, 2 CLAUSES, 3 what is owed in all, 4 numbers that wait, 5 bytes of the tape.");
        ChangerFair x = new ChangerFair();
        for (int i = 0; i < 41; i++) {
            x.draw(0, 0, 1, 2, 5);
        }
        s.is("40 bills", 40, x.count(1));
        Due.read(x, "bind;bind;bind;bind;bind;bind;bind;bind");
        s.is("8 clauses", 8, x.count(2));
        for (int i = 0; i < 51; i++) {
            x.feed(0, 8);
        }
        s.is("400 bytes", 400, x.count(5));
        for (int i = 0; i < 31; i++) {
            x.tell(0);
        }
        s.is("30 numbers", 30, x.count(4));
    }

    private void found() {
        s.promise(37, "How many acts have answered a finding LOW - k (k 1 .. 7);");
        ChangerFair x = new ChangerFair();
        for (int k = 1; k <= 7; k++) {
            s.ask(x, 0, "found", k);
        }
        x.net(10);
        x.turn();
        x.draw(0, 0, 1, 2, 5);
        x.pay(0);
        x.draw(0, 0, 1, 0, 5);
        x.feed('!', 1);
        x.read();
        x.take(0, false);
        x.pay(0);
        for (int i = 0; i < 31; i++) {
            x.tell(0);
        }
        for (int k = 1; k <= 7; k++) {
            s.ask(x, 1, "found", k);
        }
        x.turn();
        x.turn();
        for (int k = 1; k <= 7; k++) {
            s.ask(x, k == 2 ? 3 : 1, "found", k);
        }
        s.promise(37, "BEYOND: another k (counted, too).");
        s.ask(x, Due.BEYOND, "found", 0);
        s.ask(x, 2, "found", 1);
        s.ask(x, Due.BEYOND, "found", 8);
        s.ask(x, 3, "found", 1);
        s.ask(x, Due.BEYOND, "found", -1);
        s.ask(x, Due.BEYOND, "found", Integer.MIN_VALUE);
        s.ask(x, Due.BEYOND, "found", Integer.MAX_VALUE);
        s.ask(x, 6, "found", 1);
        s.ask(x, 1, "found", 7);
    }
}
