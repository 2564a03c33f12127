/** Promises 29 to 32: vote, rate, offer, turn. */
public final class RatesTest {
    private static final Due due = new Due("RatesTest");

    public static void main(String[] args) {
        vote();
        rate();
        offer();
        turnGains();
        turnOfSeveral();
        turnOfAllTowns();
        due.end();
    }

    private static void vote() {
        ChangerFair x = new ChangerFair();
        due.is("vote", 0, x.vote(0, 0, 5000));
        due.is("vote", 5000, x.vote(0, 0, 20000));
        due.is("another town", 0, x.vote(0, 4, 7000));
        due.is("another house", 0, x.vote(9, 0, 6000));
        due.is("none", 20000, x.vote(0, 0, 0));
        due.is("was none", 0, x.vote(0, 0, 9000));
        due.is("4999", Due.BEYOND, x.vote(0, 0, 4999));
        due.is("20001", Due.BEYOND, x.vote(0, 0, 20001));
        due.is("1", Due.BEYOND, x.vote(0, 0, 1));
        due.is("-1", Due.BEYOND, x.vote(0, 0, -1));
        due.is("house 10", Due.BEYOND, x.vote(10, 0, 9000));
        due.is("house -1", Due.BEYOND, x.vote(-1, 0, 9000));
        due.is("town 5", Due.BEYOND, x.vote(0, 5, 9000));
        due.is("town -1", Due.BEYOND, x.vote(0, -1, 9000));
        due.is("as before", 9000, x.vote(0, 0, 9000));
    }

    private static void rate() {
        ChangerFair x = new ChangerFair();
        due.is("no votes", Due.NONE, x.rate(3));
        int[] votes = {9000, 5000, 20000, 7000, 7000, 6000, 19000, 18000, 17000, 5500};
        int[] rates = {9000, 5000, 9000, 7000, 7000, 7000, 7000, 7000, 9000, 7000};
        for (int house = 0; house < 10; house++) {
            x.vote(house, 3, votes[house]);
            due.is("rate of " + (house + 1) + " votes", rates[house], x.rate(3));
        }
        due.is("another town", Due.NONE, x.rate(2));
        for (int house = 0; house < 9; house++) {
            x.vote(house, 3, 0);
        }
        due.is("one vote left", 5500, x.rate(3));
        x.vote(9, 3, 0);
        due.is("none left", Due.NONE, x.rate(3));
        due.is("town 5", Due.BEYOND, x.rate(5));
        due.is("town -1", Due.BEYOND, x.rate(-1));
    }

    private static void offer() {
        ChangerFair x = new ChangerFair();
        due.is("offer", 0, x.offer(0, 4, 1));
        due.is("offer", 1, x.offer(0, 4, 20000));
        due.is("the other way", 0, x.offer(4, 0, 7));
        due.is("none", 20000, x.offer(0, 4, 0));
        due.is("was none", 0, x.offer(0, 4, 3));
        due.is("20001", Due.BEYOND, x.offer(0, 4, 20001));
        due.is("-1", Due.BEYOND, x.offer(0, 4, -1));
        due.is("the same", Due.BEYOND, x.offer(2, 2, 5));
        due.is("from 5", Due.BEYOND, x.offer(5, 0, 5));
        due.is("from -1", Due.BEYOND, x.offer(-1, 0, 5));
        due.is("to 5", Due.BEYOND, x.offer(0, 5, 5));
        due.is("to -1", Due.BEYOND, x.offer(0, -1, 5));
        due.is("as before", 3, x.offer(0, 4, 3));
    }

    private static void turnGains() {
        ChangerFair x = new ChangerFair();
        due.is("no offers", Due.NONE, x.turn());
        x.offer(3, 4, 20000);
        due.is("no way back", Due.NONE, x.turn());
        x.offer(4, 3, 5000);
        due.is("just even is no gain", Due.NONE, x.turn());
        x.offer(4, 3, 5001);
        due.is("it gains", 134, x.turn());
        x.offer(3, 4, 10000);
        x.offer(4, 3, 10001);
        due.is("it gains by a hair", 134, x.turn());
        x.offer(3, 4, 20000);
        x.offer(4, 3, 0);
        x.offer(4, 2, 10000);
        x.offer(2, 3, 5001);
        due.is("three towns, from the least on", 1234, x.turn());
        x.offer(2, 3, 0);
        x.offer(2, 0, 10000);
        x.offer(0, 3, 5001);
        due.is("four towns, from the least on", 10342, x.turn());
        x.offer(0, 3, 0);
        x.offer(0, 1, 20000);
        x.offer(1, 3, 20000);
        due.is("a ring of five is no turn", Due.NONE, x.turn());
    }

    private static void turnOfSeveral() {
        ChangerFair x = new ChangerFair();
        x.offer(0, 1, 20000);
        x.offer(1, 0, 10000);
        x.offer(0, 2, 20000);
        x.offer(2, 0, 10000);
        due.is("the first in order", 101, x.turn());
        x.offer(2, 0, 10001);
        due.is("the greatest", 102, x.turn());
        x.offer(2, 0, 10000);
        x.offer(1, 2, 10000);
        due.is("of as much the fewest towns", 101, x.turn());
        x.offer(0, 1, 0);
        x.offer(0, 2, 0);
        x.offer(0, 1, 10000);
        x.offer(1, 2, 11000);
        x.offer(2, 0, 10000);
        x.offer(0, 2, 10000);
        x.offer(2, 1, 11000);
        x.offer(1, 0, 10000);
        due.is("two towns gain more", 112, x.turn());
        x.offer(2, 1, 9000);
        x.offer(1, 0, 9000);
        due.is("a ring of three gains most", 1012, x.turn());
        x.offer(0, 3, 10000);
        x.offer(3, 2, 10000);
        due.is("no better way", 1012, x.turn());
        x.offer(0, 1, 9999);
        x.offer(0, 4, 10000);
        x.offer(4, 1, 10000);
        due.is("four towns by a hair", 10412, x.turn());
    }

    private static void turnOfAllTowns() {
        ChangerFair x = new ChangerFair();
        for (int from = 0; from < 5; from++) {
            for (int to = 0; to < 5; to++) {
                if (from != to) {
                    x.offer(from, to, 20000);
                }
            }
        }
        due.is("four towns double four times", 10123, x.turn());
        x.offer(2, 3, 19999);
        due.is("the next in order", 10124, x.turn());
        x.offer(0, 1, 1);
        due.is("the next in order", 10213, x.turn());
    }
}
