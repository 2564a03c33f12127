import java.util.Random;

/** No act throws, whatever it is given, in whatever state, and far beyond 512 calls too. */
public final class WildTest {
    private static final String[] ACTS = {"days", "gain", "road", "seat", "draw", "pass", "take", "pay",
        "protest", "recourse", "about", "as", "knows", "feed", "read", "fault", "binds", "owe", "owes", "net",
        "plan", "payment", "clear", "coin", "purse", "has", "settle", "vote", "rate", "offer", "turn", "part",
        "tell", "check", "count", "found"};
    private static final int[] EDGES = {Integer.MIN_VALUE, Integer.MIN_VALUE + 1, -1000000000, -100000, -2, -1,
        41, 100, 1000, 5000, 20000, 100000, 1000000, 1000000000, Integer.MAX_VALUE - 1, Integer.MAX_VALUE};

    public static void main(String[] args) {
        Due due = new Due("WildTest");
        Random random = new Random(7);
        for (int run = 0; run < 60; run++) {
            ChangerFair x = new ChangerFair();
            int wildness = 1 + run % 10;
            for (int i = 0; i < 5000; i++) {
                String act = ACTS[random.nextInt(ACTS.length)];
                long[] a = new long[5];
                for (int n = 0; n < 5; n++) {
                    a[n] = random.nextInt(10) < wildness ? random.nextInt(11)
                            : EDGES[random.nextInt(EDGES.length)];
                }
                try {
                    Acts.call(x, act, a);
                } catch (RuntimeException thrown) {
                    due.holds(act + java.util.Arrays.toString(a) + " threw " + thrown, false);
                }
            }
            due.holds("the object still answers", x.count(1) >= 0);
        }
        due.end();
    }
}
