import java.util.LinkedHashMap;
import java.util.Map;

/** An act that answers a finding changes nothing but what found() tells (and, of read(), fault() and the tape). */
public final class UnchangedTest {
    private static final Due due = new Due("UnchangedTest");

    public static void main(String[] args) {
        unchanged("days", Due.BEYOND, 0);
        unchanged("days", Due.BEYOND, 61);
        unchanged("gain", Due.BEYOND, 201);
        unchanged("road", Due.BEYOND, 1, 31);
        unchanged("road", Due.BEYOND, 0, 5);
        unchanged("seat", Due.BEYOND, 3, 5);
        unchanged("draw", Due.BEYOND, 0, 1, 2, 3, 0);
        unchanged("draw", Due.KIND, 0, 1, 2, 1, 5);
        unchanged("pass", Due.BEYOND, 0, 10);
        unchanged("pass", Due.STATE, 2, 5);
        unchanged("pass", Due.KIND, 0, 2);
        unchanged("pass", Due.FULL, 1, 9);
        unchanged("take", Due.BEYOND, 9, 0);
        unchanged("take", Due.STATE, 1, 1);
        unchanged("take", Due.DAY, 0, 1);
        unchanged("pay", Due.BEYOND, 9);
        unchanged("pay", Due.STATE, 0);
        unchanged("protest", Due.BEYOND, -1);
        unchanged("protest", Due.STATE, 1);
        unchanged("recourse", Due.BEYOND, 9, 0);
        unchanged("recourse", Due.STATE, 2, 0);
        unchanged("recourse", Due.NONE, 3, 2);
        unchanged("recourse", Due.KIND, 3, 1);
        unchanged("about", Due.BEYOND, 0, 12);
        unchanged("about", Due.NONE, 0, 7);
        unchanged("as", Due.BEYOND, 0, 3);
        unchanged("as", Due.KIND, 0, 1);
        unchanged("knows", Due.BEYOND, 0, 0, -1);
        unchanged("knows", Due.NONE, 4, 0, 0);
        unchanged("feed", Due.BEYOND, 7, 9);
        unchanged("binds", Due.BEYOND, 0, 0, 0, 0, -1);
        unchanged("owe", Due.BEYOND, 1, 1, 5);
        unchanged("owe", Due.BEYOND, 1, 2, 1000001);
        unchanged("owes", Due.BEYOND, 1, 1);
        unchanged("net", Due.BEYOND, 10);
        unchanged("payment", Due.BEYOND, 0, 3);
        unchanged("payment", Due.NONE, 99, 0);
        unchanged("coin", Due.BEYOND, 0, 5, 1001);
        unchanged("purse", Due.BEYOND, 0, 0, 1001);
        unchanged("has", Due.BEYOND, 0, 4);
        unchanged("settle", Due.BEYOND, 0, 10);
        unchanged("settle", Due.NONE, 1, 0);
        unchanged("vote", Due.BEYOND, 0, 0, 4999);
        unchanged("rate", Due.BEYOND, 5);
        unchanged("rate", Due.NONE, 4);
        unchanged("offer", Due.BEYOND, 0, 1, 20001);
        unchanged("part", Due.BEYOND, 0, -1, 1);
        unchanged("count", Due.BEYOND, 6);
        unchanged("found", Due.BEYOND, 0);
        askingChangesNothing();
        fullTapeAndNumbers();
        readWithFault();
        due.end();
    }

    /** Day 8; bills 0 drawn, 1 taken with 4 endorsers, 2 refused, 3 protested with 2, 4 a paid pledge. */
    private static ChangerFair scene() {
        ChangerFair x = new ChangerFair();
        x.gain(30);
        x.road(1, 4);
        x.road(2, 9);
        x.seat(4, 1);
        x.seat(5, 2);
        x.draw(0, 0, 1, 2, 500);
        x.draw(0, 0, 1, 2, 600);
        for (int house = 3; house <= 6; house++) {
            x.pass(1, house);
        }
        x.draw(1, 0, 1, 2, 700);
        x.draw(0, 3, 4, 5, 800);
        x.pass(3, 6);
        x.pass(3, 7);
        x.draw(2, 0, 8, 9, 900);
        x.take(1, false);
        x.take(2, true);
        x.take(3, true);
        x.take(4, false);
        x.days(8);
        x.protest(3);
        x.pay(4);
        x.owe(0, 1, 1000);
        x.owe(2, 3, 77);
        x.owe(8, 7, 50);
        Due.read(x, "free if hops = 1; bind");
        Due.feed(x, "bind; free");
        x.coin(0, 100, 500);
        x.coin(3, 7, 1000);
        x.purse(0, 0, 3);
        x.purse(0, 3, 30);
        x.vote(2, 3, 9000);
        x.vote(4, 3, 9500);
        x.offer(1, 2, 11000);
        x.offer(2, 1, 10000);
        x.tell(5);
        x.tell(6);
        return x;
    }

    /** All that can be asked; some of it is asked by changing it, for the object is not used again. */
    private static Map<String, Long> all(ChangerFair x) {
        Map<String, Long> answers = new LinkedHashMap<>();
        for (int k = 1; k <= 7; k++) {
            answers.put("found " + k, x.found(k));
        }
        for (int what = 0; what < 6; what++) {
            answers.put("count " + what, x.count(what));
        }
        answers.put("fault", x.fault());
        for (int house = 0; house < 10; house++) {
            for (int other = 0; other < 10; other++) {
                answers.put("owes " + house + " " + other, x.owes(house, other));
            }
            for (int kind = -1; kind < 4; kind++) {
                answers.put("has " + house + " " + kind, x.has(house, kind));
            }
            answers.put("part " + house, x.part(8, 920, house));
        }
        long bills = x.count(1);
        for (int bill = 0; bill < bills; bill++) {
            for (int what = 0; what < 12; what++) {
                answers.put("about " + bill + " " + what, x.about(bill, what));
            }
        }
        for (int hops = 0; hops < 3; hops++) {
            answers.put("binds " + hops, x.binds(1, 1, hops, 0, 0));
        }
        answers.put("plan", x.plan(true));
        answers.put("check", x.check());
        answers.put("turn", x.turn());
        answers.put("read", x.read());
        answers.put("gain", x.gain(0));
        for (int town = 0; town < 5; town++) {
            answers.put("road " + town, x.road(town, 0));
            answers.put("rate " + town, x.rate(town));
            for (int other = 0; other < 5; other++) {
                answers.put("offer " + town + " " + other, x.offer(town, other, 0));
            }
        }
        for (int house = 0; house < 10; house++) {
            answers.put("seat " + house, x.seat(house, 0));
            answers.put("vote " + house, x.vote(house, 3, 0));
        }
        return answers;
    }

    private static void unchanged(String act, long finding, long... arguments) {
        String call = act + java.util.Arrays.toString(arguments);
        ChangerFair x = scene();
        due.is(call, finding, Acts.call(x, act, arguments));
        Map<String, Long> want = all(scene());
        want.merge("found " + (Due.LOW - finding), 1L, Long::sum);
        same(call, want, all(x));
    }

    private static void same(String call, Map<String, Long> want, Map<String, Long> got) {
        for (Map.Entry<String, Long> entry : want.entrySet()) {
            due.is(call + ", then " + entry.getKey(), entry.getValue(), got.get(entry.getKey()));
        }
    }

    private static void askingChangesNothing() {
        ChangerFair x = scene();
        x.about(1, 4);
        x.as(1, 0);
        x.knows(0, 1, 100);
        x.fault();
        x.binds(1, 2, 3, 4, 5);
        x.owes(0, 1);
        x.net(0);
        x.plan(false);
        x.plan(true);
        x.payment(0, 0);
        x.has(0, -1);
        x.rate(3);
        x.turn();
        x.part(8, 100, 9);
        x.count(3);
        x.found(1);
        same("asking", all(scene()), all(x));
    }

    private static void fullTapeAndNumbers() {
        ChangerFair x = new ChangerFair();
        for (int i = 0; i < 50; i++) {
            Due.feed(x, "bind if ");
        }
        due.is("feed", Due.FULL, x.feed(0, 1));
        due.is("count(5)", 400, x.count(5));
        for (int i = 0; i < 30; i++) {
            x.tell(i);
        }
        due.is("tell", Due.FULL, x.tell(0));
        due.is("count(4)", 30, x.count(4));
        due.is("found(4)", 2, x.found(4));
        due.is("read", Due.TEXT, x.read());
        due.is("fault", 8, x.fault());
    }

    private static void readWithFault() {
        ChangerFair x = scene();
        Due.feed(x, "!");
        due.is("read()", Due.TEXT, x.read());
        Map<String, Long> want = all(scene());
        want.merge("found 6", 1L, Long::sum);
        want.put("fault", 10L);
        want.put("count 5", 0L);
        want.put("read", 0L);
        same("read() with a fault", want, all(x));
    }
}
