import java.util.Arrays;
import java.util.LinkedHashMap;
import java.util.Map;
import java.util.TreeSet;
import java.util.function.Supplier;

/**
 * An act that answers a finding changes nothing but what found() tells (and, of read(), fault() and
 * the tape): of every act every finding that the document names, by every argument that brings it.
 */
public final class UnchangedTest {
    /** Of each act the findings that the document names, in the order in which they are told. */
    static final String[] NAMED = {
        "days BEYOND FULL", "gain BEYOND", "road BEYOND", "seat BEYOND", "draw BEYOND KIND FULL",
        "pass BEYOND STATE KIND FULL", "take BEYOND STATE DAY", "pay BEYOND STATE DAY FULL", "protest BEYOND STATE",
        "recourse BEYOND STATE NONE KIND FULL", "about BEYOND NONE", "as BEYOND KIND", "knows BEYOND NONE",
        "feed BEYOND FULL", "binds BEYOND", "owe BEYOND FULL", "owes BEYOND", "net BEYOND", "payment BEYOND NONE",
        "coin BEYOND", "purse BEYOND", "has BEYOND", "settle BEYOND NONE", "vote BEYOND", "rate BEYOND NONE",
        "offer BEYOND", "turn NONE", "part BEYOND", "tell FULL", "count BEYOND", "found BEYOND"};
    static final String[] FINDINGS = {"", "BEYOND", "NONE", "STATE", "FULL", "KIND", "TEXT", "DAY"};
    private static final int PARTS = 4;

    private static final Due due = new Due("UnchangedTest");
    private static final TreeSet<String> seen = new TreeSet<>();
    private static Supplier<ChangerFair> scene;

    public static void main(String[] args) {
        scene = UnchangedTest::market;
        days();
        bills();
        custom();
        book();
        coins();
        rates();
        told();
        askingChangesNothing();
        scene = UnchangedTest::empty;
        emptyObject();
        scene = UnchangedTest::fullOfDebts;
        fullDebts();
        scene = UnchangedTest::fullOfAll;
        fullRows();
        everyFindingIsSeen();
        readWithFault();
        daysThatStopOnTheWay();
        due.end();
    }

    private static void days() {
        refused("days", Due.BEYOND, 0);
        refused("days", Due.BEYOND, -1);
        refused("days", Due.BEYOND, 61);
        refused("gain", Due.BEYOND, -1);
        refused("gain", Due.BEYOND, 201);
        refused("road", Due.BEYOND, 0, 5);
        refused("road", Due.BEYOND, -1, 5);
        refused("road", Due.BEYOND, 5, 5);
        refused("road", Due.BEYOND, 1, -1);
        refused("road", Due.BEYOND, 1, 31);
        refused("seat", Due.BEYOND, -1, 1);
        refused("seat", Due.BEYOND, 10, 1);
        refused("seat", Due.BEYOND, 3, -1);
        refused("seat", Due.BEYOND, 3, 5);
    }

    private static void bills() {
        refusedEach("draw", Due.BEYOND, new long[] {0, 1, 2, 3, 5},
                new long[][] {{-1, 3}, {-1, 10}, {-1, 10}, {-1, 10}, {0, -1, 100001}});
        refused("draw", Due.KIND, 0, 1, 2, 1, 5);
        refusedEach("pass", Due.BEYOND, new long[] {0, 5}, new long[][] {{-1, 6}, {-1, 10}});
        for (int bill = 2; bill <= 5; bill++) {
            refused("pass", Due.STATE, bill, 1);
        }
        refused("pass", Due.KIND, 0, 2);
        refused("pass", Due.KIND, 1, 6);
        refused("pass", Due.FULL, 1, 9);
        for (int no = 0; no <= 1; no++) {
            refused("take", Due.BEYOND, -1, no);
            refused("take", Due.BEYOND, 6, no);
            refused("take", Due.DAY, 0, no);
            for (int bill = 1; bill <= 5; bill++) {
                refused("take", Due.STATE, bill, no);
            }
        }
        refused("pay", Due.BEYOND, -1);
        refused("pay", Due.BEYOND, 6);
        refused("protest", Due.BEYOND, -1);
        refused("protest", Due.BEYOND, 6);
        for (int bill = 0; bill <= 5; bill++) {
            if (bill != 1) {
                refused("pay", Due.STATE, bill);
            }
            if (bill != 2) {
                refused("protest", Due.STATE, bill);
            }
            if (bill != 3) {
                refused("recourse", Due.STATE, bill, 0);
                refused("recourse", Due.STATE, bill, -1);
            }
        }
        refused("recourse", Due.BEYOND, -1, 0);
        refused("recourse", Due.BEYOND, 6, -1);
        refused("recourse", Due.NONE, 3, 2);
        refused("recourse", Due.NONE, 3, -2);
        refused("recourse", Due.KIND, 3, 1);
        asked();
    }

    private static void asked() {
        refusedEach("about", Due.BEYOND, new long[] {0, 0}, new long[][] {{-1, 6}, {-1, 12}});
        refused("about", Due.NONE, 0, 7);
        refused("about", Due.NONE, 3, 9);
        refusedEach("as", Due.BEYOND, new long[] {0, 0}, new long[][] {{-1, 6}, {-1, 3}});
        refused("as", Due.KIND, 0, 1);
        refused("as", Due.KIND, 4, 1);
        refusedEach("knows", Due.BEYOND, new long[] {0, 0, 5}, new long[][] {{-1, 10}, {-1, 6}, {-1}});
        refused("knows", Due.NONE, 4, 0, 3);
    }

    private static void custom() {
        refused("feed", Due.BEYOND, ';', 0);
        refused("feed", Due.BEYOND, ';', -1);
        refused("feed", Due.BEYOND, ';', 9);
        refusedEach("binds", Due.BEYOND, new long[] {1, 1, 1, 1, 1}, new long[][] {{-1}, {-1}, {-1}, {-1}, {-1}});
    }

    private static void book() {
        refusedEach("owe", Due.BEYOND, new long[] {1, 2, 5}, new long[][] {{-1, 10, 2}, {-1, 10, 1}, {-1, 0, 1000001}});
        refusedEach("owes", Due.BEYOND, new long[] {1, 2}, new long[][] {{-1, 10, 2}, {-1, 10, 1}});
        refused("net", Due.BEYOND, -1);
        refused("net", Due.BEYOND, 10);
        refused("payment", Due.BEYOND, 0, -1);
        refused("payment", Due.BEYOND, 0, 3);
        refused("payment", Due.NONE, -1, 0);
        refused("payment", Due.NONE, 9, 0);
    }

    private static void coins() {
        refusedEach("coin", Due.BEYOND, new long[] {0, 5, 5}, new long[][] {{-1, 4}, {-1, 1001}, {-1, 1001}});
        refusedEach("purse", Due.BEYOND, new long[] {0, 0, 5}, new long[][] {{-1, 10}, {-1, 4}, {-1, 1001}});
        refusedEach("has", Due.BEYOND, new long[] {0, 0}, new long[][] {{-1, 10}, {-2, 4}});
        refusedEach("settle", Due.BEYOND, new long[] {0, 1}, new long[][] {{-1, 10, 1}, {-1, 10, 0}});
        refused("settle", Due.NONE, 1, 0);
        refused("settle", Due.NONE, 0, 5);
    }

    private static void rates() {
        refusedEach("vote", Due.BEYOND, new long[] {0, 3, 6000},
                new long[][] {{-1, 10}, {-1, 5}, {-1, 1, 4999, 20001}});
        refused("rate", Due.BEYOND, -1);
        refused("rate", Due.BEYOND, 5);
        refused("rate", Due.NONE, 4);
        refusedEach("offer", Due.BEYOND, new long[] {1, 2, 5}, new long[][] {{-1, 5, 2}, {-1, 5, 1}, {-1, 20001}});
    }

    private static void told() {
        refusedEach("part", Due.BEYOND, new long[] {8, 100, 9},
                new long[][] {{-1, 10, 9}, {-1, 1000000001}, {-1, 10, 8}});
        refused("count", Due.BEYOND, -1);
        refused("count", Due.BEYOND, 6);
        refused("found", Due.BEYOND, 0);
        refused("found", Due.BEYOND, 8);
    }

    private static void emptyObject() {
        refused("turn", Due.NONE);
        refused("rate", Due.NONE, 0);
        refused("payment", Due.NONE, 0, 0);
        refused("settle", Due.NONE, 0, 1);
        refused("pass", Due.BEYOND, 0, 1);
        refused("take", Due.BEYOND, 0, 0);
        refused("pay", Due.BEYOND, 0);
        refused("protest", Due.BEYOND, 0);
        refused("recourse", Due.BEYOND, 0, -1);
        refused("about", Due.BEYOND, 0, 0);
        refused("as", Due.BEYOND, 0, 0);
        refused("knows", Due.BEYOND, 0, 0, 0);
    }

    private static void fullDebts() {
        refused("owe", Due.FULL, 0, 1, 1);
        refused("owe", Due.FULL, 0, 1, 1000000);
        refused("pay", Due.FULL, 0);
        refused("recourse", Due.FULL, 1, -1);
        refused("recourse", Due.FULL, 1, 1);
        // The day is the last one of a fair, so that no day at all goes.
        refused("days", Due.FULL, 1);
        refused("days", Due.FULL, 60);
    }

    private static void fullRows() {
        refused("draw", Due.FULL, 0, 1, 2, 3, 5);
        refused("pay", Due.DAY, 1);
        refused("feed", Due.FULL, ';', 1);
        refused("feed", Due.FULL, ';', 8);
        refused("tell", Due.FULL, 5);
    }

    private static ChangerFair empty() {
        return new ChangerFair();
    }

    /**
     * Day 8; bills 0 drawn, 1 taken with 4 endorsers, 2 a refused bearer, 3 protested with 2 endorsers,
     * 4 a paid pledge, 5 paid by recourse.
     */
    private static ChangerFair market() {
        ChangerFair x = new ChangerFair();
        x.gain(30);
        x.road(1, 4);
        x.road(2, 9);
        x.seat(4, 1);
        x.seat(5, 2);
        x.draw(0, 0, 1, 2, 500);
        x.draw(0, 0, 1, 2, 600);
        for (int house = 3; house <= 6; house++) {
            x.pass(1, house);
        }
        x.draw(1, 0, 1, 2, 700);
        x.draw(0, 3, 4, 5, 800);
        x.pass(3, 6);
        x.pass(3, 7);
        x.draw(2, 0, 8, 9, 900);
        x.draw(0, 3, 4, 5, 950);
        for (int bill = 1; bill <= 5; bill++) {
            x.take(bill, bill != 1 && bill != 4);
        }
        x.days(8);
        x.protest(3);
        x.protest(5);
        x.recourse(5, -1);
        x.pay(4);
        x.owe(0, 1, 1000);
        x.owe(2, 3, 77);
        x.owe(8, 7, 50);
        Due.read(x, "free if hops = 1; bind");
        Due.feed(x, "bind; free");
        x.coin(0, 100, 500);
        x.coin(3, 7, 1000);
        x.purse(0, 0, 3);
        x.purse(0, 3, 30);
        x.vote(2, 3, 9000);
        x.vote(4, 3, 9500);
        x.offer(1, 2, 11000);
        x.offer(2, 1, 10000);
        x.tell(5);
        x.tell(6);
        return x;
    }

    /**
     * The last day of a fair; house 0 owes house 1 just the most; bill 0 is taken by house 0 for house 1,
     * bill 1 is protested, house 0 is its drawer and second endorser, house 1 holds it.
     */
    private static ChangerFair fullOfDebts() {
        ChangerFair x = new ChangerFair();
        x.owe(5, 4, 1000);
        Debts.grow(x, 0, 1, Debts.MOST);
        x.draw(2, 2, 0, 1, 5);
        x.draw(0, 0, 6, 2, 5);
        x.pass(1, 0);
        x.pass(1, 1);
        x.take(0, false);
        x.take(1, true);
        x.protest(1);
        x.gain(1);
        x.days(27);
        return x;
    }

    /** 40 bills, 400 bytes, 30 numbers that wait; bill 1 is taken, it is day 6. */
    private static ChangerFair fullOfAll() {
        ChangerFair x = new ChangerFair();
        for (int bill = 0; bill < 40; bill++) {
            x.draw(bill % 3, bill % 10, 1, (bill + 1) % 10, 1 + bill);
        }
        for (int i = 0; i < 50; i++) {
            Due.feed(x, i == 49 ? "   bind;" : "        ");
        }
        for (int i = 0; i < 30; i++) {
            x.tell(i);
        }
        x.take(1, false);
        x.owe(8, 9, 40);
        x.days(6);
        return x;
    }

    /**
     * What can be asked, some of it by changing it; in parts, each of an object of its own, so that none
     * is called more than 512 times.
     */
    private static Map<String, Long> all(Supplier<ChangerFair> maker) {
        Map<String, Long> answers = new LinkedHashMap<>();
        for (int part = 0; part < PARTS; part++) {
            ChangerFair x = maker.get();
            switch (part) {
                case 0: countsAndRates(x, answers); break;
                case 1: housesAndBook(x, answers); break;
                default: billsFrom(x, 20 * (part - 2), answers); break;
            }
        }
        return answers;
    }

    private static void countsAndRates(ChangerFair x, Map<String, Long> answers) {
        for (int k = 1; k <= 7; k++) {
            answers.put("found " + k, x.found(k));
        }
        for (int what = 0; what < 6; what++) {
            answers.put("count " + what, x.count(what));
        }
        answers.put("fault", x.fault());
        for (int hops = 0; hops < 3; hops++) {
            answers.put("binds " + hops, x.binds(1, 1, hops, 0, 0));
        }
        answers.put("turn", x.turn());
        answers.put("check", x.check());
        answers.put("read", x.read());
        answers.put("fault behind read", x.fault());
        for (int town = 0; town < 5; town++) {
            answers.put("road " + town, x.road(town, 0));
            answers.put("rate " + town, x.rate(town));
            for (int other = 0; other < 5; other++) {
                answers.put("offer " + town + " " + other, x.offer(town, other, 0));
            }
            for (int house = 0; house < 10; house++) {
                answers.put("vote " + house + " " + town, x.vote(house, town, 0));
            }
        }
        for (int house = 0; house < 10; house++) {
            answers.put("seat " + house, x.seat(house, 0));
        }
        answers.put("gain", x.gain(0));
    }

    private static void housesAndBook(ChangerFair x, Map<String, Long> answers) {
        answers.put("groups", x.plan(true));
        answers.put("payments", x.plan(false));
        answers.put("payment", x.payment(0, 2));
        for (int house = 0; house < 10; house++) {
            for (int other = 0; other < 10; other++) {
                answers.put("owes " + house + " " + other, x.owes(house, other));
            }
            for (int kind = -1; kind < 4; kind++) {
                answers.put("has " + house + " " + kind, x.has(house, kind));
            }
            answers.put("net " + house, x.net(house));
            answers.put("part " + house, x.part(8, 920, house));
        }
        for (int kind = 0; kind < 4; kind++) {
            x.purse(9, kind, 1);
            answers.put("worth " + kind, x.has(9, -1));
        }
        answers.put("clear", x.clear());
    }

    private static void billsFrom(ChangerFair x, int first, Map<String, Long> answers) {
        long bills = x.count(1);
        for (int bill = first; bill < Math.min(bills, first + 20); bill++) {
            for (int what = 0; what < 12; what++) {
                answers.put("about " + bill + " " + what, x.about(bill, what));
            }
            answers.put("knows 0 " + bill, x.knows(0, bill, 6));
            answers.put("knows 5 " + bill, x.knows(5, bill, 12));
        }
    }

    private static void refused(String act, long finding, long... arguments) {
        seen.add(act + " " + FINDINGS[(int) (Due.LOW - finding)]);
        String call = act + Arrays.toString(arguments);
        due.is(call, finding, Acts.call(scene.get(), act, arguments));
        Map<String, Long> want = all(scene);
        want.merge("found " + (Due.LOW - finding), 1L, Long::sum);
        same(call, want, all(() -> {
            ChangerFair x = scene.get();
            Acts.call(x, act, arguments);
            return x;
        }));
    }

    /** A call that would be good is spoilt in one argument after the other. */
    private static void refusedEach(String act, long finding, long[] good, long[][] spoilt) {
        due.holds(act + Arrays.toString(good) + " isn't good", Acts.call(scene.get(), act, good) > Due.LOW);
        for (int i = 0; i < good.length; i++) {
            for (long bad : spoilt[i]) {
                long[] arguments = good.clone();
                arguments[i] = bad;
                refused(act, finding, arguments);
            }
        }
    }

    private static void same(String call, Map<String, Long> want, Map<String, Long> got) {
        for (Map.Entry<String, Long> entry : want.entrySet()) {
            due.is(call + ", then " + entry.getKey(), entry.getValue(), got.get(entry.getKey()));
        }
    }

    private static void everyFindingIsSeen() {
        TreeSet<String> named = new TreeSet<>();
        for (String row : NAMED) {
            String[] words = row.split(" ");
            for (int i = 1; i < words.length; i++) {
                named.add(words[0] + " " + words[i]);
            }
        }
        due.holds("not the findings that the document names: " + seen, seen.equals(named));
    }

    private static void askingChangesNothing() {
        same("asking", all(scene), all(() -> {
            ChangerFair x = scene.get();
            x.about(1, 4);
            x.as(1, 0);
            x.knows(0, 1, 100);
            x.fault();
            x.binds(1, 2, 3, 4, 5);
            x.owes(0, 1);
            x.net(0);
            x.plan(false);
            x.plan(true);
            x.payment(0, 0);
            x.has(0, -1);
            x.rate(3);
            x.turn();
            x.part(8, 100, 9);
            x.count(3);
            x.found(1);
            return x;
        }));
    }

    private static void readWithFault() {
        scene = UnchangedTest::market;
        Map<String, Long> want = all(scene);
        want.merge("found 6", 1L, Long::sum);
        want.put("fault", 10L);
        want.put("count 5", 0L);
        want.put("read", 0L);
        same("read() with a fault", want, all(() -> {
            ChangerFair x = scene.get();
            Due.feed(x, "!");
            due.is("read()", Due.TEXT, x.read());
            return x;
        }));
    }

    /** The days before have gone, and nothing else has changed but what found() tells. */
    private static void daysThatStopOnTheWay() {
        Supplier<ChangerFair> before = () -> {
            ChangerFair x = new ChangerFair();
            x.owe(5, 4, 1000);
            Debts.grow(x, 0, 1, Debts.MOST);
            x.gain(1);
            return x;
        };
        Map<String, Long> want = all(before);
        want.merge("found 4", 1L, Long::sum);
        want.merge("count 0", 27L, Long::sum);
        same("days(60) that stop on day 27", want, all(() -> {
            ChangerFair x = before.get();
            due.is("days(60)", Due.FULL, x.days(60));
            return x;
        }));
    }
}
