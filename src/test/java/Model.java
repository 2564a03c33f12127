import java.math.BigInteger;
import java.util.ArrayList;
import java.util.Arrays;
import java.util.List;
import java.util.TreeMap;
import java.util.regex.Matcher;
import java.util.regex.Pattern;

/**
 * The document once more, written with the library and by trying everything out, so that it shares
 * no way of working with ChangerFair: all partings are tried, all rings, all with BigInteger.
 */
final class Model {
    private static final class Stop extends RuntimeException {
        private static final long serialVersionUID = 1L;
        final int k;

        Stop(int k) {
            super(null, null, false, false);
            this.k = k;
        }
    }

    private static final class Paper {
        int kind;
        int drawer;
        int drawee;
        int holder;
        int amount;
        boolean byPay;
        final List<Integer> endorsers = new ArrayList<>();
        final List<int[]> history = new ArrayList<>();

        int state() {
            return history.get(history.size() - 1)[0];
        }

        int dayOf(int state) {
            for (int[] entry : history) {
                if (entry[0] == state) {
                    return entry[1];
                }
            }
            return -1;
        }
    }

    private record Test(String value, char sign, int number) {
    }

    private record Clause(boolean binding, List<Test> tests) {
    }

    private record Payment(long who, long whom, long much) {
    }

    private static final long MOST = 1000000000L;

    private long day;
    private int gain = 20;
    private final int[] roads = new int[5];
    private final int[] seats = new int[10];
    private final List<Paper> papers = new ArrayList<>();
    private List<Clause> custom = new ArrayList<>();
    private StringBuilder tape = new StringBuilder();
    private long fault = -1;
    // Who owes whom how much: key 10 * house + other.
    private TreeMap<Integer, Long> book = new TreeMap<>();
    private final int[][] coins = new int[4][2];
    private final int[][] purses = new int[10][4];
    private final int[][] votes = new int[10][5];
    private final int[][] offers = new int[5][5];
    private List<Integer> told = new ArrayList<>();
    private final long[] found = new long[8];

    long call(String act, long[] a) {
        try {
            return act(act, a);
        } catch (Stop stop) {
            found[stop.k]++;
            return -1000000000000L - stop.k;
        }
    }

    private static void ask(boolean wrong, int k) {
        if (wrong) {
            throw new Stop(k);
        }
    }

    private static void in(long v, long least, long most) {
        ask(v < least || v > most, 1);
    }

    private long act(String act, long[] a) {
        int[] i = new int[5];
        for (int n = 0; n < a.length; n++) {
            i[n] = (int) a[n];
        }
        switch (act) {
            case "days": return days(i[0]);
            case "gain": return gain(i[0]);
            case "road": return road(i[0], i[1]);
            case "seat": return seat(i[0], i[1]);
            case "draw": return draw(i);
            case "pass": return pass(i[0], i[1]);
            case "take": return take(i[0], i[1] != 0);
            case "pay": return pay(i[0]);
            case "protest": return protest(i[0]);
            case "recourse": return recourse(i[0], i[1]);
            case "about": return about(i[0], i[1]);
            case "as": return as(i[0], i[1]);
            case "knows": return knows(i[0], i[1], i[2]);
            case "feed": return feed(a[0], i[1]);
            case "read": return read();
            case "fault": return fault;
            case "binds": return binds(i);
            case "owe": return owe(i[0], i[1], i[2]);
            case "owes": two(i[0], i[1]); return debt(i[0], i[1]);
            case "net": in(i[0], 0, 9); return net(i[0]);
            case "plan": return i[0] != 0 ? groups().size() : payments().size();
            case "payment": return payment(i[0], i[1]);
            case "clear": return clear();
            case "coin": return coin(i[0], i[1], i[2]);
            case "purse": return purse(i[0], i[1], i[2]);
            case "has": return has(i[0], i[1]);
            case "settle": return settle(i[0], i[1]);
            case "vote": return vote(i[0], i[1], i[2]);
            case "rate": return rate(i[0]);
            case "offer": return offer(i[0], i[1], i[2]);
            case "turn": return turn();
            case "part": return part(i[0], i[1], i[2]);
            case "tell": ask(told.size() == 30, 4); told.add(i[0]); return told.size();
            case "check": return check();
            case "count": return count(i[0]);
            case "found": in(i[0], 1, 7); return found[i[0]];
            default: throw new AssertionError(act);
        }
    }

    private long days(int n) {
        in(n, 1, 60);
        for (int d = 0; d < n; d++) {
            if (day % 28 == 27) {
                TreeMap<Integer, Long> next = new TreeMap<>();
                for (var e : book.entrySet()) {
                    long grown = e.getValue() + e.getValue() * gain / 1000;
                    ask(grown > MOST, 4);
                    next.put(e.getKey(), grown);
                }
                book = next;
            }
            day++;
        }
        return day;
    }

    private long gain(int v) {
        in(v, 0, 200);
        int was = gain;
        gain = v;
        return was;
    }

    private long road(int town, int days) {
        in(town, 1, 4);
        in(days, 0, 30);
        int was = roads[town];
        roads[town] = days;
        return was;
    }

    private long seat(int house, int town) {
        in(house, 0, 9);
        in(town, 0, 4);
        int was = seats[house];
        seats[house] = town;
        return was;
    }

    private long draw(int[] a) {
        in(a[0], 0, 2);
        in(a[1], 0, 9);
        in(a[2], 0, 9);
        in(a[3], 0, 9);
        in(a[4], 1, 100000);
        ask(a[1] == a[3], 5);
        ask(papers.size() == 40, 4);
        Paper p = new Paper();
        p.kind = a[0];
        p.drawer = a[1];
        p.drawee = a[2];
        p.holder = a[3];
        p.amount = a[4];
        p.history.add(new int[] {0, (int) day});
        papers.add(p);
        return papers.size() - 1;
    }

    private Paper paper(int bill) {
        in(bill, 0, papers.size() - 1);
        return papers.get(bill);
    }

    private long pass(int bill, int house) {
        Paper p = paper(bill);
        in(house, 0, 9);
        ask(p.state() > 1, 3);
        ask(p.holder == house, 5);
        if (p.kind != 1) {
            ask(p.endorsers.size() == 4, 4);
            p.endorsers.add(p.holder);
        }
        p.holder = house;
        return p.endorsers.size();
    }

    private long take(int bill, boolean refused) {
        Paper p = paper(bill);
        ask(p.state() != 0, 3);
        ask(day % 28 > 6, 7);
        p.history.add(new int[] {refused ? 2 : 1, (int) day});
        return p.state();
    }

    private long debt(int house, int other) {
        return book.getOrDefault(10 * house + other, 0L);
    }

    private void comesToOwe(int house, int other, long v) {
        if (house == other) {
            return;
        }
        long less = Math.min(v, debt(other, house));
        long owedThen = debt(other, house) - less;
        long owesThen = debt(house, other) + v - less;
        ask(owesThen > MOST || owedThen > MOST, 4);
        book.put(10 * other + house, owedThen);
        book.put(10 * house + other, owesThen);
    }

    private long pay(int bill) {
        Paper p = paper(bill);
        ask(p.state() != 1, 3);
        ask(day % 28 < 7, 7);
        comesToOwe(p.drawee, p.holder, p.amount);
        p.history.add(new int[] {4, (int) day});
        p.byPay = true;
        return p.drawee == p.holder ? 0 : p.amount;
    }

    private long protest(int bill) {
        Paper p = paper(bill);
        ask(p.state() != 2, 3);
        p.history.add(new int[] {3, (int) day});
        return p.dayOf(3) - p.dayOf(2);
    }

    private long recourse(int bill, int i) {
        Paper p = paper(bill);
        ask(p.state() != 3, 3);
        if (i == -1) {
            comesToOwe(p.drawer, p.holder, p.amount);
            p.history.add(new int[] {4, (int) day});
            return p.drawer;
        }
        ask(i < 0 || i >= p.endorsers.size(), 2);
        int house = p.endorsers.get(i);
        ask(!bound(p.dayOf(3) - p.dayOf(2), p.amount, i, p.kind, roads[seats[house]]), 5);
        comesToOwe(house, p.holder, p.amount);
        p.holder = house;
        while (p.endorsers.size() > i) {
            p.endorsers.remove(p.endorsers.size() - 1);
        }
        return house;
    }

    private long about(int bill, int what) {
        Paper p = paper(bill);
        in(what, 0, 11);
        if (what >= 7 && what <= 10) {
            ask(what - 7 >= p.endorsers.size(), 2);
            return p.endorsers.get(what - 7);
        }
        int[] all = {p.kind, p.drawer, p.drawee, p.holder, p.amount, p.state(), p.endorsers.size(),
            0, 0, 0, 0, p.history.get(p.history.size() - 1)[1]};
        return all[what];
    }

    private long as(int bill, int kind) {
        Paper p = paper(bill);
        in(kind, 0, 2);
        ask(!(kind == 0 || kind == p.kind), 5);
        return p.amount;
    }

    private long knows(int house, int bill, int onDay) {
        Paper p = paper(bill);
        in(house, 0, 9);
        ask(onDay < 0, 1);
        long known = -1;
        for (int[] entry : p.history) {
            if ((long) onDay >= (long) entry[1] + roads[seats[house]]) {
                known = entry[0];
            }
        }
        ask(known < 0, 2);
        return known;
    }

    private long feed(long eight, int n) {
        in(n, 1, 8);
        ask(tape.length() + n > 400, 4);
        for (int b = 0; b < n; b++) {
            tape.append((char) BigInteger.valueOf(eight).shiftRight(8 * b).and(BigInteger.valueOf(255)).intValue());
        }
        return tape.length();
    }

    private long read() {
        String text = tape.toString();
        tape = new StringBuilder();
        List<Clause> draft = new ArrayList<>();
        fault = faultOf(text, draft);
        ask(fault >= 0, 6);
        custom = draft;
        return custom.size();
    }

    private static final Pattern WORD = Pattern.compile("[a-z]+|[0-9]+|[<=>;]");

    /** Words with their places; a byte that begins no word becomes the word "?", the end "". */
    private static List<String> words(String text, List<Integer> places) {
        List<String> words = new ArrayList<>();
        int at = 0;
        while (at < text.length()) {
            if (text.charAt(at) == ' ') {
                at++;
                continue;
            }
            places.add(at);
            Matcher m = WORD.matcher(text).region(at, text.length());
            if (!m.lookingAt()) {
                words.add("?");
                at++;
                continue;
            }
            words.add(m.group());
            at = m.end();
        }
        places.add(text.length());
        words.add("");
        return words;
    }

    /** A machine of states over the words: 0 verdict, 1 behind it, 2 value, 3 sign, 4 number, 5 behind a test. */
    private static long faultOf(String text, List<Clause> draft) {
        List<Integer> places = new ArrayList<>();
        List<String> words = words(text, places);
        if (words.size() == 1) {
            return -1;
        }
        int state = 0;
        String value = "";
        String sign = "";
        for (int n = 0; n < words.size(); n++) {
            String w = words.get(n);
            Clause last = draft.isEmpty() ? null : draft.get(draft.size() - 1);
            if (state == 0 && (w.equals("bind") || w.equals("free"))) {
                draft.add(new Clause(w.equals("bind"), new ArrayList<>()));
                state = 1;
            } else if ((state == 1 || state == 5) && w.equals("")) {
                return -1;
            } else if ((state == 1 || state == 5) && w.equals(";") && draft.size() < 8) {
                state = 0;
            } else if (state == 1 && w.equals("if")) {
                state = 2;
            } else if (state == 5 && w.equals("and") && last.tests().size() < 4) {
                state = 2;
            } else if (state == 2 && Arrays.asList("late", "amount", "hops", "kind", "road").contains(w)) {
                value = w;
                state = 3;
            } else if (state == 3 && (w.equals("<") || w.equals("=") || w.equals(">"))) {
                sign = w;
                state = 4;
            } else if (state == 4 && w.matches("[0-9]+")
                    && new BigInteger(w).compareTo(BigInteger.valueOf(999999)) <= 0) {
                last.tests().add(new Test(value, sign.charAt(0), new BigInteger(w).intValue()));
                state = 5;
            } else {
                return places.get(n);
            }
        }
        throw new AssertionError("no end");
    }

    private boolean bound(int late, int amount, int hops, int kind, int road) {
        for (Clause c : custom) {
            boolean all = true;
            for (Test t : c.tests()) {
                int v = switch (t.value()) {
                    case "late" -> late;
                    case "amount" -> amount;
                    case "hops" -> hops;
                    case "kind" -> kind;
                    default -> road;
                };
                int order = Integer.compare(v, t.number());
                all &= order == (t.sign() == '<' ? -1 : t.sign() == '=' ? 0 : 1);
            }
            if (all) {
                return c.binding();
            }
        }
        return true;
    }

    private long binds(int[] a) {
        for (int v : a) {
            ask(v < 0, 1);
        }
        return bound(a[0], a[1], a[2], a[3], a[4]) ? 1 : 0;
    }

    private static void two(int house, int other) {
        in(house, 0, 9);
        in(other, 0, 9);
        ask(house == other, 1);
    }

    private long owe(int house, int other, int v) {
        two(house, other);
        in(v, 1, 1000000);
        comesToOwe(house, other, v);
        return debt(house, other);
    }

    private long net(int house) {
        long net = 0;
        for (int other = 0; other < 10; other++) {
            net += debt(other, house) - debt(house, other);
        }
        return net;
    }

    private List<Integer> best;

    private List<Integer> groups() {
        int all = 0;
        for (int house = 0; house < 10; house++) {
            if (net(house) != 0) {
                all |= 1 << house;
            }
        }
        long[] nets = new long[10];
        for (int house = 0; house < 10; house++) {
            nets[house] = net(house);
        }
        best = null;
        tryAll(all, nets, new ArrayList<>());
        return best;
    }

    private void tryAll(int rest, long[] nets, List<Integer> chosen) {
        if (rest == 0) {
            if (best == null || better(chosen)) {
                best = new ArrayList<>(chosen);
            }
            return;
        }
        int least = Integer.lowestOneBit(rest);
        for (int set = rest; set > 0; set = (set - 1) & rest) {
            if ((set & least) != 0 && sum(set, nets) == 0) {
                chosen.add(set);
                tryAll(rest & ~set, nets, chosen);
                chosen.remove(chosen.size() - 1);
            }
        }
    }

    private static long sum(int set, long[] nets) {
        long sum = 0;
        for (int house = 0; house < 10; house++) {
            sum += (set >> house & 1) * nets[house];
        }
        return sum;
    }

    private boolean better(List<Integer> chosen) {
        if (chosen.size() != best.size()) {
            return chosen.size() > best.size();
        }
        for (int g = 0; g < best.size(); g++) {
            if (!chosen.get(g).equals(best.get(g))) {
                return chosen.get(g) < best.get(g);
            }
        }
        return false;
    }

    private List<Payment> payments() {
        List<Payment> payments = new ArrayList<>();
        for (int group : groups()) {
            TreeMap<Integer, Long> owing = new TreeMap<>();
            TreeMap<Integer, Long> owed = new TreeMap<>();
            for (int house = 0; house < 10; house++) {
                if ((group >> house & 1) != 0) {
                    (net(house) < 0 ? owing : owed).put(house, Math.abs(net(house)));
                }
            }
            while (!owing.isEmpty()) {
                int who = owing.firstKey();
                int whom = owed.firstKey();
                long much = Math.min(owing.get(who), owed.get(whom));
                payments.add(new Payment(who, whom, much));
                lower(owing, who, much);
                lower(owed, whom, much);
            }
        }
        return payments;
    }

    private static void lower(TreeMap<Integer, Long> map, int house, long much) {
        long left = map.remove(house) - much;
        if (left != 0) {
            map.put(house, left);
        }
    }

    private long payment(int i, int what) {
        in(what, 0, 2);
        List<Payment> payments = payments();
        ask(i < 0 || i >= payments.size(), 2);
        Payment p = payments.get(i);
        return what == 0 ? p.who() : what == 1 ? p.whom() : p.much();
    }

    private long total() {
        long total = 0;
        for (long v : book.values()) {
            total += v;
        }
        return total;
    }

    private long clear() {
        TreeMap<Integer, Long> next = new TreeMap<>();
        for (Payment p : payments()) {
            next.merge((int) (10 * p.who() + p.whom()), p.much(), Long::sum);
        }
        book = next;
        return total();
    }

    private int worth(int kind) {
        return coins[kind][0] * coins[kind][1] / 1000;
    }

    private long coin(int kind, int weight, int fine) {
        in(kind, 0, 3);
        in(weight, 0, 1000);
        in(fine, 0, 1000);
        coins[kind][0] = weight;
        coins[kind][1] = fine;
        return worth(kind);
    }

    private long purse(int house, int kind, int n) {
        in(house, 0, 9);
        in(kind, 0, 3);
        in(n, 0, 1000);
        int was = purses[house][kind];
        purses[house][kind] = n;
        return was;
    }

    private long has(int house, int kind) {
        in(house, 0, 9);
        in(kind, -1, 3);
        if (kind >= 0) {
            return purses[house][kind];
        }
        long all = 0;
        for (int k = 0; k < 4; k++) {
            all += purses[house][k] * worth(k);
        }
        return all;
    }

    private long settle(int house, int other) {
        two(house, other);
        ask(debt(house, other) == 0, 2);
        List<Integer> kinds = new ArrayList<>(List.of(0, 1, 2, 3));
        kinds.sort((p, q) -> worth(q) - worth(p));
        for (int kind : kinds) {
            // Coin by coin.
            while (worth(kind) > 0 && purses[house][kind] > 0 && purses[other][kind] < 1000
                    && debt(house, other) >= worth(kind)) {
                purses[house][kind]--;
                purses[other][kind]++;
                book.put(10 * house + other, debt(house, other) - worth(kind));
            }
        }
        return debt(house, other);
    }

    private long vote(int house, int town, int v) {
        in(house, 0, 9);
        in(town, 0, 4);
        if (v != 0) {
            in(v, 5000, 20000);
        }
        int was = votes[house][town];
        votes[house][town] = v;
        return was;
    }

    private long rate(int town) {
        in(town, 0, 4);
        List<Integer> given = new ArrayList<>();
        for (int house = 0; house < 10; house++) {
            if (votes[house][town] != 0) {
                given.add(votes[house][town]);
            }
        }
        ask(given.isEmpty(), 2);
        given.sort(null);
        return given.get((given.size() - 1) / 2);
    }

    private long offer(int from, int to, int v) {
        in(from, 0, 4);
        in(to, 0, 4);
        ask(from == to, 1);
        in(v, 0, 20000);
        int was = offers[from][to];
        offers[from][to] = v;
        return was;
    }

    /** Every row of figures 0 .. 4 is tried; of two rings a / 10000^m and b / 10000^n are crossed. */
    private long turn() {
        String bestRing = null;
        for (int length = 2; length <= 4; length++) {
            int rows = (int) Math.pow(5, length);
            for (int row = 0; row < rows; row++) {
                StringBuilder padded = new StringBuilder(Integer.toString(row, 5));
                while (padded.length() < length) {
                    padded.insert(0, '0');
                }
                String ring = padded.toString();
                if (isRing(ring) && product(ring).compareTo(pars(length)) > 0
                        && (bestRing == null || product(ring).multiply(pars(bestRing.length()))
                                .compareTo(product(bestRing).multiply(pars(length))) > 0)) {
                    bestRing = ring;
                }
            }
        }
        ask(bestRing == null, 2);
        return Long.parseLong("1" + bestRing);
    }

    private static boolean isRing(String ring) {
        for (int i = 0; i < ring.length(); i++) {
            if (ring.indexOf(ring.charAt(i)) != i || ring.charAt(i) < ring.charAt(0)) {
                return false;
            }
        }
        return true;
    }

    private BigInteger product(String ring) {
        BigInteger product = BigInteger.ONE;
        for (int i = 0; i < ring.length(); i++) {
            int from = ring.charAt(i) - '0';
            int to = ring.charAt((i + 1) % ring.length()) - '0';
            product = product.multiply(BigInteger.valueOf(offers[from][to]));
        }
        return product;
    }

    private static BigInteger pars(int length) {
        return BigInteger.valueOf(10000).pow(length);
    }

    private long part(int house, int sum, int creditor) {
        two(house, creditor);
        in(sum, 0, 1000000000);
        TreeMap<Integer, Long> pledged = new TreeMap<>();
        TreeMap<Integer, Long> rest = new TreeMap<>();
        for (int other = 0; other < 10; other++) {
            long claim = 0;
            for (Paper p : papers) {
                if (p.kind == 2 && p.byPay && p.drawee == house && p.holder == other) {
                    claim += p.amount;
                }
            }
            claim = Math.min(claim, debt(house, other));
            if (claim > 0) {
                pledged.put(other, claim);
            }
            if (debt(house, other) > claim) {
                rest.put(other, debt(house, other) - claim);
            }
        }
        long[] got = new long[10];
        long left = share(pledged, sum, got);
        share(rest, left, got);
        return got[creditor];
    }

    private static long share(TreeMap<Integer, Long> claims, long sum, long[] got) {
        long all = 0;
        for (long claim : claims.values()) {
            all += claim;
        }
        long left = sum;
        for (var e : claims.entrySet()) {
            long gets = sum >= all ? e.getValue() : BigInteger.valueOf(sum)
                    .multiply(BigInteger.valueOf(e.getValue())).divide(BigInteger.valueOf(all)).longValueExact();
            got[e.getKey()] += gets;
            left -= gets;
        }
        if (sum < all) {
            for (int house : claims.keySet()) {
                if (left > 0) {
                    got[house]++;
                    left--;
                }
            }
        }
        return left;
    }

    private long check() {
        List<Integer> numbers = told;
        told = new ArrayList<>();
        List<Payment> payments = payments();
        for (int i = 0; i < payments.size(); i++) {
            Payment p = payments.get(i);
            if (numbers.size() < 3 * i + 3 || numbers.get(3 * i) != p.who()
                    || numbers.get(3 * i + 1) != p.whom() || numbers.get(3 * i + 2) != p.much()) {
                return 1 + i;
            }
        }
        return numbers.size() > 3 * payments.size() ? 99 : 0;
    }

    private long count(int what) {
        in(what, 0, 5);
        long[] all = {day, papers.size(), custom.size(), total(), told.size(), tape.length()};
        return all[what];
    }
}
