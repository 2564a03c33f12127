import java.util.ArrayList;
import java.util.List;
import java.util.Random;

/** Runs of 512 random acts, the same for ChangerFair and for Model, with every answer compared. */
public final class ModelTest {
    private static final String[] TEXT_WORDS = {"bind", "free", "if", "and", "late", "amount", "hops",
        "kind", "road", "<", "=", ">", ";", "0", "1", "2", "999999", "1000000", "!", " ", "bin", "A"};
    private static final String[] VALUES = {"late", "amount", "hops", "kind", "road"};
    private static final int RUNS = 1500;
    private static final int CALLS = 512;
    private static final int HEAPED = 3;

    private final Random random;
    private final ChangerFair fair = new ChangerFair();
    private final Model model = new Model();
    private final List<String> calls = new ArrayList<>();
    private final int houses;
    private final int style;
    private boolean wrong;

    private ModelTest(long seed) {
        random = new Random(seed);
        int many = 2 + random.nextInt(9);
        style = random.nextInt(8);
        // Few houses, so that acts meet the heaped debt often.
        houses = style == HEAPED ? 2 + many % 3 : many;
    }

    public static void main(String[] args) {
        Due due = new Due("ModelTest");
        int[] answers = new int[9];
        for (int seed = 1; seed <= RUNS; seed++) {
            ModelTest run = new ModelTest(seed);
            run.go(answers);
            due.holds("run " + seed + " differs: " + (run.wrong ? run.calls.get(run.calls.size() - 1) : ""), !run.wrong);
        }
        for (int k = 1; k <= 7; k++) {
            due.holds("the runs meet finding " + k + " too seldom: " + answers[k], answers[k] > 100);
        }
        due.end();
    }

    private void go(int[] answers) {
        if (style == HEAPED) {
            heapDebt(answers);
        }
        while (calls.size() < CALLS && !wrong) {
            step(answers);
        }
    }

    /** Two debts of house 0, each below the most, become one above it by clearing. */
    private void heapDebt(int[] answers) {
        both(answers, "gain", 200);
        both(answers, "owe", 0, 1, 1000000);
        both(answers, "owe", 0, 2, 1000000);
        both(answers, "owe", 2, 1, 1000000);
        for (int day = 0; day < 34 * 28; day += 56) {
            both(answers, "days", 56);
        }
        both(answers, "gain", within(0, 200));
        long excess = random.nextInt(2) == 0 ? random.nextInt(60) : random.nextInt(3000000);
        long left = 1000000000L + excess - asked("owes", 0, 1) - asked("owes", 0, 2);
        while (left > 0) {
            long v = Math.min(left, 1000000L);
            both(answers, "owe", 0, 1, v);
            left -= v;
        }
        both(answers, "clear");
    }

    private int house() {
        int r = random.nextInt(60);
        return r == 0 ? -1 : r == 1 ? 10 : random.nextInt(houses);
    }

    private int town() {
        int r = random.nextInt(60);
        return r == 0 ? -1 : r == 1 ? 5 : random.nextInt(5);
    }

    private int bill() {
        return random.nextInt(30) == 0 ? random.nextInt(44) - 2
                : random.nextInt(Math.max(1, asked("count", 1)));
    }

    /** What the model answers to a question that is no call of the run. */
    private int asked(String act, long... a) {
        return (int) model.call(act, a);
    }

    private int within(int least, int most) {
        int r = random.nextInt(40);
        if (r < 6) {
            return new int[] {least - 1, least, least + 1, most - 1, most, most + 1}[r];
        }
        return least + random.nextInt(most - least + 1);
    }

    private void step(int[] answers) {
        int r = random.nextInt(100);
        if (r < 8) {
            both(answers, "owe", house(), house(), random.nextInt(3) > 0 ? within(1, 5) : within(1, 1000000));
        } else if (r < 14) {
            both(answers, "days", style == 0 ? 60 : style == 1 ? 28 : random.nextInt(3) == 0 ? within(1, 60) : within(1, 8));
        } else if (r < 22) {
            both(answers, "draw", within(0, 2), house(), house(), house(), within(1, random.nextInt(2) == 0 ? 9 : 100000));
        } else if (r < 28) {
            both(answers, "pass", bill(), house());
        } else if (r < 33) {
            both(answers, "take", bill(), random.nextInt(2));
        } else if (r < 41) {
            both(answers, new String[] {"pay", "protest"}[random.nextInt(2)], bill());
        } else if (r < 45) {
            both(answers, "recourse", bill(), within(-1, 3));
        } else if (r < 49) {
            both(answers, "about", bill(), within(0, 11));
        } else if (r < 53) {
            both(answers, random.nextInt(2) == 0 ? "knows" : "part", house(),
                    random.nextInt(2) == 0 ? bill() : within(0, 1000000000), house());
        } else if (r < 58) {
            both(answers, "knows", house(), bill(), within(0, asked("count", 0) + 40));
        } else if (r < 62) {
            both(answers, "part", house(), random.nextInt(3) == 0 ? within(0, 1000000000) : within(0, 20), house());
        } else {
            stepMore(answers, random.nextInt(38));
        }
    }

    private void stepMore(int[] answers, int r) {
        switch (r) {
            case 0: both(answers, "gain", style < 2 ? 200 : within(0, 200)); break;
            case 1: both(answers, "road", town(), within(0, 30)); break;
            case 2: both(answers, "seat", house(), town()); break;
            case 3: both(answers, "as", bill(), within(0, 2)); break;
            case 4: case 5: text(answers, goodText()); break;
            case 6: text(answers, randomText()); break;
            case 7: both(answers, "feed", random.nextLong(), within(1, 8)); break;
            case 8: both(answers, "read"); both(answers, "fault"); break;
            case 9: both(answers, "binds", within(0, 3), within(0, 3), within(0, 3), within(0, 3), within(0, 3)); break;
            case 10: both(answers, "owes", house(), house()); break;
            case 11: both(answers, "net", house()); break;
            case 12: case 13: both(answers, "plan", random.nextInt(2)); break;
            case 14: case 15: both(answers, "payment", within(0, 9), within(0, 2)); break;
            case 16: both(answers, "clear"); break;
            case 17: both(answers, "coin", within(0, 3), within(0, random.nextInt(2) == 0 ? 4 : 1000), within(0, 1000)); break;
            case 18: case 19: both(answers, "purse", house(), within(0, 3), within(0, 1000)); break;
            case 20: both(answers, "has", house(), within(-1, 3)); break;
            case 21: case 22: both(answers, "settle", house(), house()); break;
            case 23: case 24: both(answers, "vote", house(), town(), random.nextInt(4) == 0 ? 0 : within(5000, 20000)); break;
            case 25: both(answers, "rate", town()); break;
            case 26: case 27: both(answers, "offer", town(), town(), within(0, style == 2 ? 3 : 20000)); break;
            case 28: both(answers, "offer", town(), town(), 9990 + random.nextInt(21)); break;
            case 29: case 30: both(answers, "turn"); break;
            case 31: both(answers, "tell", within(0, 9)); break;
            case 32: case 33: case 34: tellPlan(answers); break;
            case 35: both(answers, "check"); break;
            case 36: both(answers, "count", within(0, 5)); break;
            default: both(answers, "found", within(1, 7)); break;
        }
    }

    /** Tells THE PLAN's payments, now and then with one number wrong, too few or too many. */
    private void tellPlan(int[] answers) {
        int planned = 3 * asked("plan", 0);
        int n = planned + (random.nextInt(4) == 0 ? random.nextInt(5) - 2 : 0);
        int spoilt = random.nextInt(40);
        for (int i = 0; i < n; i++) {
            int due = i < planned ? asked("payment", i / 3, i % 3) : 0;
            both(answers, "tell", i == spoilt ? due + 1 : due);
        }
        both(answers, "check");
    }

    private String goodText() {
        StringBuilder text = new StringBuilder();
        int clauses = Math.max(1, within(1, 8));
        for (int c = 0; c < clauses; c++) {
            text.append(c == 0 ? "" : ";").append(random.nextBoolean() ? "bind" : " free");
            int tests = random.nextInt(10) == 0 ? within(0, 4) : random.nextInt(3);
            for (int t = 0; t < tests; t++) {
                text.append(t == 0 ? " if " : random.nextBoolean() ? " and " : "and ")
                        .append(VALUES[random.nextInt(5)]).append("<=>".charAt(random.nextInt(3)))
                        .append(random.nextInt(3));
            }
        }
        if (random.nextInt(4) == 0) {
            text.setCharAt(random.nextInt(text.length()), (char) random.nextInt(256));
        }
        return text.toString();
    }

    private String randomText() {
        StringBuilder text = new StringBuilder(random.nextBoolean() ? "free if late<1" : "");
        int n = random.nextInt(6);
        for (int i = 0; i < n; i++) {
            text.append(TEXT_WORDS[random.nextInt(TEXT_WORDS.length)]).append(random.nextBoolean() ? " " : "");
        }
        return text.toString();
    }

    private void text(int[] answers, String text) {
        for (int at = 0; at < text.length(); at += 8) {
            int n = Math.min(8, text.length() - at);
            long eight = random.nextLong();
            for (int i = n - 1; i >= 0; i--) {
                eight = eight << 8 | text.charAt(at + i);
            }
            both(answers, "feed", eight, n);
        }
        both(answers, "read");
        both(answers, "fault");
        both(answers, "count", 2);
    }

    private void both(int[] answers, String act, long... a) {
        if (wrong || calls.size() >= CALLS) {
            return;
        }
        long got = Acts.call(fair, act, a);
        long want = model.call(act, a);
        calls.add(act + java.util.Arrays.toString(a) + " answered " + got + ", due is " + want);
        wrong = got != want;
        if (want < Due.LOW) {
            answers[(int) (Due.LOW - want)]++;
        }
    }
}
