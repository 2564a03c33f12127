/** Edges of promises 29 to 32 (rates), and of point 5 of the terms. */
final class RatesEdges {
    private final Sentences s;

    RatesEdges(Sentences s) {
        this.s = s;
    }

    void run() {
        votes();
        middle();
        offers();
        turns();
        ringOfFive();
        turnGains();
        greatest();
        fewestTowns();
        firstInOrder();
        vote();
        rate();
        offer();
        turnFigures();
        turnNone();
    }

    private void votes() {
        s.point(5, "VOTES of houses for a TOWN's RATE (5000 .. 20000, or none):");
        ChangerFair x = new ChangerFair();
        s.ask(x, 0, "vote", 0, 0, 5000);
        s.ask(x, 5000, "rate", 0);
        s.ask(x, 5000, "vote", 0, 0, 20000);
        s.ask(x, 20000, "rate", 0);
        s.ask(x, Due.BEYOND, "vote", 0, 0, 4999);
        s.ask(x, Due.BEYOND, "vote", 0, 0, 20001);
        s.ask(x, 20000, "rate", 0);
        s.ask(x, 20000, "vote", 0, 0, 0);
        s.ask(x, Due.NONE, "rate", 0);
    }

    private void middle() {
        s.point(5, "RATE: the one in the middle, by size (of even many the lower of both).");
        int[] votes = {20000, 5000, 19999, 5001, 10000, 10000, 6000, 7000, 8000, 9000};
        int[] rates = {20000, 5000, 19999, 5001, 10000, 10000, 10000, 7000, 8000, 8000};
        ChangerFair x = new ChangerFair();
        for (int house = 0; house < 10; house++) {
            x.vote(house, 4, votes[house]);
            s.is("rate of " + (house + 1), rates[house], x.rate(4));
        }
        ChangerFair same = new ChangerFair();
        for (int house = 0; house < 10; house++) {
            same.vote(house, 4, 12345);
            s.is("all alike", 12345, same.rate(4));
        }
    }

    private void offers() {
        s.point(5, "OFFERS from a town to another one (1 .. 20000 for 10000; none at first).");
        ChangerFair x = new ChangerFair();
        for (int from = 0; from < 5; from++) {
            for (int to = 0; to < 5; to++) {
                if (from == to) {
                    s.ask(x, Due.BEYOND, "offer", from, to, 5);
                } else {
                    s.ask(x, 0, "offer", from, to, 1);
                    s.ask(x, 1, "offer", from, to, 20000);
                    s.ask(x, Due.BEYOND, "offer", from, to, 20001);
                    s.ask(x, Due.BEYOND, "offer", from, to, -1);
                    s.ask(x, 20000, "offer", from, to, 0);
                }
            }
        }
    }

    /** A ring of towns, the last with an offer to the first, all 10000 but the last one. */
    private static ChangerFair ring(int last, int... towns) {
        ChangerFair x = new ChangerFair();
        for (int i = 0; i < towns.length; i++) {
            int next = (i + 1) % towns.length;
            x.offer(towns[i], towns[next], next == 0 ? last : 10000);
        }
        return x;
    }

    private void turns() {
        s.point(5, "A TURN: 2, 3 or 4 unlike towns in a ring, each with an OFFER to the next one, the last to the first;");
        s.is("two", 134, ring(10001, 3, 4).turn());
        s.is("two", 104, ring(10001, 4, 0).turn());
        s.is("three", 1234, ring(10001, 2, 3, 4).turn());
        s.is("three", 1043, ring(10001, 4, 3, 0).turn());
        s.is("four", 11234, ring(10001, 1, 2, 3, 4).turn());
        s.is("four", 10432, ring(10001, 4, 3, 2, 0).turn());
        int[][] rings = {{0, 1}, {0, 1, 2}, {0, 1, 2, 3}};
        for (int[] towns : rings) {
            for (int i = 0; i < towns.length; i++) {
                ChangerFair x = ring(20000, towns);
                x.offer(towns[i], towns[(i + 1) % towns.length], 0);
                s.is("an offer is missing", Due.NONE, x.turn());
                x.offer(towns[i], towns[(i + 1) % towns.length], 20000);
                s.is("an offer has come", 1, x.turn() > 0 ? 1 : 0);
            }
        }
    }

    private void ringOfFive() {
        s.point(5, "A TURN: 2, 3 or 4 unlike towns in a ring");
        ChangerFair x = new ChangerFair();
        for (int town = 0; town < 5; town++) {
            x.offer(town, (town + 1) % 5, 20000);
        }
        s.is("five towns are no turn", Due.NONE, x.turn());
        ChangerFair twice = new ChangerFair();
        twice.offer(0, 1, 20000);
        twice.offer(1, 0, 20000);
        s.is("no town twice", 101, twice.turn());
    }

    private void turnGains() {
        s.point(5, "it GAINS if the product of the OFFERS is above that of as many 10000.");
        int[][] rings = {{1, 3}, {1, 3, 2}, {1, 4, 3, 2}};
        int[] figures = {113, 1132, 11432};
        for (int i = 0; i < rings.length; i++) {
            s.is("just as much", Due.NONE, ring(10000, rings[i]).turn());
            s.is("by 1 more", figures[i], ring(10001, rings[i]).turn());
            s.is("by 1 less", Due.NONE, ring(9999, rings[i]).turn());
        }
        ChangerFair x = ring(20000, 0, 1, 2, 3);
        x.offer(0, 1, 5000);
        s.is("just as much of unlike offers", Due.NONE, x.turn());
        x.offer(0, 1, 5001);
        s.is("above", 10123, x.turn());
        ChangerFair least = ring(1, 0, 1);
        s.is("the least offer", Due.NONE, least.turn());
        least.offer(0, 1, 20000);
        s.is("the least and the greatest offer", Due.NONE, least.turn());
    }

    private void greatest() {
        s.point(5, "THE BEST TURN: that whose product by as many 10000 is the greatest,");
        ChangerFair x = ring(10002, 0, 1);
        x.offer(2, 3, 10000);
        x.offer(3, 2, 10003);
        s.is("a later one gains more", 123, x.turn());
        x.offer(3, 2, 10001);
        s.is("a later one gains less", 101, x.turn());
        ChangerFair y = new ChangerFair();
        y.offer(0, 1, 20000);
        y.offer(1, 0, 10001);
        y.offer(2, 3, 20000);
        y.offer(3, 4, 10001);
        y.offer(4, 2, 10001);
        s.is("three towns by less than one of 10000", 1234, y.turn());
        y.offer(4, 2, 9999);
        s.is("two towns by less than one of 10000", 101, y.turn());
        ChangerFair z = new ChangerFair();
        for (int from = 0; from < 5; from++) {
            for (int to = 0; to < 5; to++) {
                if (from != to) {
                    z.offer(from, to, 20000);
                }
            }
        }
        s.is("four towns double most often", 10123, z.turn());
        z.offer(3, 0, 19999);
        s.is("the greatest of four", 10124, z.turn());
        hair();
    }

    /** Products of four offers that differ in the last figures alone. */
    private void hair() {
        ChangerFair x = ring(19999, 0, 1, 2, 3);
        x.offer(0, 1, 19999);
        x.offer(1, 2, 19999);
        x.offer(2, 3, 19999);
        x.offer(2, 4, 20000);
        x.offer(4, 0, 19998);
        s.is("19999 twice is more than 20000 and 19998", 10123, x.turn());
        x.offer(4, 0, 19999);
        s.is("and less than 20000 and 19999", 10124, x.turn());
    }

    private void fewestTowns() {
        s.point(5, "of several that of the fewest towns,");
        ChangerFair x = ring(11000, 0, 1, 2, 3);
        s.is("four", 10123, x.turn());
        x.offer(2, 4, 10000);
        x.offer(4, 1, 11000);
        s.is("three as good, though later in order", 1124, x.turn());
        x.offer(3, 2, 11000);
        s.is("two as good, though later in order", 123, x.turn());
    }

    private void firstInOrder() {
        s.point(5, "then, told from its least town on, the first in order.");
        ChangerFair x = ring(11000, 3, 4);
        x.offer(0, 2, 11000);
        x.offer(2, 0, 10000);
        s.is("the lesser first town", 102, x.turn());
        x.offer(0, 1, 11000);
        x.offer(1, 0, 10000);
        s.is("the lesser second town", 101, x.turn());
        ChangerFair bothWays = offers(new int[][] {{0, 1, 20000}, {0, 2, 20000}, {1, 2, 11000}, {2, 1, 11000},
            {1, 0, 10000}, {2, 0, 10000}});
        s.is("three towns both ways", 1012, bothWays.turn());
        bothWays.offer(1, 2, 10999);
        s.is("the other way is better now", 1021, bothWays.turn());
        ChangerFair third = offers(new int[][] {{0, 1, 20000}, {1, 2, 10000}, {1, 3, 10000}, {2, 3, 11000},
            {3, 2, 11000}, {3, 0, 10000}, {2, 0, 10000}});
        s.is("the lesser third town", 10123, third.turn());
        third.offer(2, 3, 10999);
        s.is("the other one is better now", 10132, third.turn());
    }

    private static ChangerFair offers(int[][] offers) {
        ChangerFair x = new ChangerFair();
        for (int[] offer : offers) {
            x.offer(offer[0], offer[1], offer[2]);
        }
        return x;
    }

    private void vote() {
        s.promise(29, "A house's VOTE for a TOWN (0: none): what it was.");
        ChangerFair x = new ChangerFair();
        s.ask(x, 0, "vote", 0, 0, 0);
        s.ask(x, 0, "vote", 0, 0, 5000);
        s.ask(x, 5000, "vote", 0, 0, 20000);
        s.ask(x, 20000, "vote", 0, 0, 0);
        s.ask(x, 0, "vote", 9, 4, 5001);
        s.ask(x, 5001, "vote", 9, 4, 19999);
        s.is("another town", 0, x.vote(9, 3, 5000));
        s.is("another house", 0, x.vote(8, 4, 5000));
        s.ask(x, 19999, "vote", 9, 4, 6000);
        s.promise(29, "BEYOND: there is no such house or town, or v isn't 0 or 5000 .. 20000.");
        s.ask(x, Due.BEYOND, "vote", -1, 0, 6000);
        s.ask(x, Due.BEYOND, "vote", 10, 0, 6000);
        s.ask(x, Due.BEYOND, "vote", 0, -1, 6000);
        s.ask(x, Due.BEYOND, "vote", 0, 5, 6000);
        s.ask(x, Due.BEYOND, "vote", 9, 4, -1);
        s.ask(x, Due.BEYOND, "vote", 9, 4, 1);
        s.ask(x, Due.BEYOND, "vote", 9, 4, 4999);
        s.ask(x, Due.BEYOND, "vote", 9, 4, 20001);
        s.ask(x, Due.BEYOND, "vote", 9, 4, Integer.MIN_VALUE);
        s.ask(x, Due.BEYOND, "vote", 9, 4, Integer.MAX_VALUE);
        s.is("no town and no vote", Due.BEYOND, x.vote(0, 5, 0));
        s.is("as it was", 6000, x.vote(9, 4, 6000));
    }

    private void rate() {
        s.promise(30, "RATE of a town.");
        ChangerFair x = new ChangerFair();
        for (int town = 0; town < 5; town++) {
            x.vote(9, town, 5000 + town);
            s.ask(x, 5000 + town, "rate", town);
        }
        s.promise(30, "BEYOND.");
        s.ask(x, Due.BEYOND, "rate", -1);
        s.ask(x, Due.BEYOND, "rate", 5);
        s.ask(x, Due.BEYOND, "rate", Integer.MIN_VALUE);
        s.ask(x, Due.BEYOND, "rate", Integer.MAX_VALUE);
        s.promise(30, "NONE: there are no VOTES.");
        ChangerFair y = new ChangerFair();
        y.vote(3, 1, 5000);
        s.ask(y, Due.NONE, "rate", 0);
        s.ask(y, Due.NONE, "rate", 2);
        s.ask(y, 5000, "rate", 1);
        y.vote(3, 1, 0);
        s.ask(y, Due.NONE, "rate", 1);
    }

    private void offer() {
        s.promise(31, "An OFFER from a town to another one (0: none): what it was.");
        ChangerFair x = new ChangerFair();
        s.ask(x, 0, "offer", 0, 4, 0);
        s.ask(x, 0, "offer", 0, 4, 1);
        s.ask(x, 1, "offer", 0, 4, 20000);
        s.is("the other way", 0, x.offer(4, 0, 7));
        s.ask(x, 20000, "offer", 0, 4, 0);
        s.ask(x, 0, "offer", 0, 4, 3);
        s.promise(31, "BEYOND: there is no such town, they are the same, or v isn't 0 .. 20000.");
        s.ask(x, Due.BEYOND, "offer", -1, 0, 5);
        s.ask(x, Due.BEYOND, "offer", 5, 0, 5);
        s.ask(x, Due.BEYOND, "offer", 0, -1, 5);
        s.ask(x, Due.BEYOND, "offer", 0, 5, 5);
        s.ask(x, Due.BEYOND, "offer", 0, 0, 5);
        s.ask(x, Due.BEYOND, "offer", 4, 4, 0);
        s.ask(x, Due.BEYOND, "offer", 0, 4, -1);
        s.ask(x, Due.BEYOND, "offer", 0, 4, 20001);
        s.ask(x, Due.BEYOND, "offer", 0, 4, Integer.MIN_VALUE);
        s.ask(x, Due.BEYOND, "offer", 0, 4, Integer.MAX_VALUE);
        s.is("as it was", 3, x.offer(0, 4, 3));
    }

    private void turnFigures() {
        s.promise(32, "THE BEST TURN, its towns from the least on as figures of a number, and 1 ahead (of towns 0, 2, 1: 1021).");
        s.is("0, 2, 1", 1021, ring(10001, 2, 1, 0).turn());
        s.is("the least figures", 101, ring(10001, 1, 0).turn());
        s.is("the greatest of two", 134, ring(10001, 4, 3).turn());
        s.is("the greatest of three", 1243, ring(10001, 4, 3, 2).turn());
        s.is("the least of four", 10123, ring(10001, 2, 3, 0, 1).turn());
        s.is("the greatest of four", 11432, ring(10001, 3, 2, 1, 4).turn());
    }

    private void turnNone() {
        s.promise(32, "NONE: no TURN GAINS.");
        ChangerFair x = new ChangerFair();
        s.ask(x, Due.NONE, "turn");
        x.offer(0, 1, 20000);
        s.ask(x, Due.NONE, "turn");
        x.offer(1, 0, 5000);
        s.ask(x, Due.NONE, "turn");
        x.offer(1, 0, 5001);
        s.ask(x, 101, "turn");
        x.offer(1, 0, 0);
        s.ask(x, Due.NONE, "turn");
        s.ask(x, 4, "found", 2);
    }
}
