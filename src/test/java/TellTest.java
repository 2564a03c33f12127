/** Promises 34 to 37: tell, check, count, found. */
public final class TellTest {
    private static final Due due = new Due("TellTest");

    public static void main(String[] args) {
        tell();
        check();
        count();
        found();
        due.end();
    }

    private static void tell() {
        ChangerFair x = new ChangerFair();
        for (int i = 1; i <= 30; i++) {
            due.is("tell", i, x.tell(i % 2 == 0 ? Integer.MIN_VALUE : Integer.MAX_VALUE));
        }
        due.is("the 31st", Due.FULL, x.tell(0));
        due.is("count(4)", 30, x.count(4));
        due.is("check", 99, x.check());
        due.is("none wait", 0, x.count(4));
        due.is("tell", 1, x.tell(0));
    }

    private static void tellAll(ChangerFair x, int... numbers) {
        for (int number : numbers) {
            x.tell(number);
        }
    }

    private static void checked(ChangerFair x, long want, int... numbers) {
        tellAll(x, numbers);
        due.is("count(4)", numbers.length, x.count(4));
        due.is("check() of " + java.util.Arrays.toString(numbers), want, x.check());
        due.is("none wait", 0, x.count(4));
    }

    private static void check() {
        ChangerFair x = new ChangerFair();
        checked(x, 0);
        checked(x, 99, 0);
        checked(x, 99, 0, 1, 2);
        x.owe(0, 1, 10);
        x.owe(2, 3, 20);
        checked(x, 0, 0, 1, 10, 2, 3, 20);
        checked(x, 1);
        checked(x, 1, 0);
        checked(x, 1, 0, 1);
        checked(x, 2, 0, 1, 10);
        checked(x, 2, 0, 1, 10, 2, 3);
        checked(x, 1, 1, 1, 10, 2, 3, 20);
        checked(x, 1, 0, 2, 10, 2, 3, 20);
        checked(x, 1, 0, 1, 11, 2, 3, 20);
        checked(x, 1, 2, 3, 20, 0, 1, 10);
        checked(x, 2, 0, 1, 10, 3, 3, 20);
        checked(x, 2, 0, 1, 10, 2, 2, 20);
        checked(x, 2, 0, 1, 10, 2, 3, 19);
        checked(x, 2, 0, 1, 10, 2, 3, 19, 4, 5, 6);
        checked(x, 99, 0, 1, 10, 2, 3, 20, 0);
        checked(x, 99, 0, 1, 10, 2, 3, 20, 4, 5, 6);
        tellAll(x, 0, 1, 10, 2, 3, 21);
        x.owe(2, 3, 1);
        due.is("THE PLAN of now counts", 0, x.check());
    }

    private static void count() {
        ChangerFair x = new ChangerFair();
        x.days(9);
        x.draw(0, 0, 1, 2, 3);
        x.draw(0, 0, 1, 2, 3);
        Due.read(x, "bind;bind;free");
        x.owe(0, 1, 1000000);
        x.owe(3, 0, 4);
        x.tell(1);
        x.tell(1);
        x.feed(0, 5);
        long[] want = {9, 2, 3, 1000004, 2, 5};
        for (int what = 0; what < want.length; what++) {
            due.is("count(" + what + ")", want[what], x.count(what));
        }
        due.is("count(6)", Due.BEYOND, x.count(6));
        due.is("count(-1)", Due.BEYOND, x.count(-1));
    }

    private static void found() {
        ChangerFair x = new ChangerFair();
        due.is("found(0)", Due.BEYOND, x.found(0));
        due.is("it is counted, too", 1, x.found(1));
        due.is("found(8)", Due.BEYOND, x.found(8));
        due.is("found(-1)", Due.BEYOND, x.found(-1));
        due.is("found(MIN)", Due.BEYOND, x.found(Integer.MIN_VALUE));
        due.is("four by now", 4, x.found(1));
        x.turn();
        x.rate(0);
        x.draw(0, 0, 1, 2, 5);
        x.pay(0);
        x.draw(0, 0, 1, 0, 5);
        x.as(0, 1);
        x.as(0, 2);
        x.feed('x', 1);
        x.read();
        x.take(0, false);
        x.pay(0);
        for (int i = 0; i < 35; i++) {
            x.tell(i);
        }
        long[] want = {4, 2, 1, 5, 3, 1, 1};
        for (int k = 1; k <= 7; k++) {
            due.is("found(" + k + ")", want[k - 1], x.found(k));
        }
    }
}
