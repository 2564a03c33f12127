/** Promises 1 to 5: a new object, days, gain, road, seat. */
public final class DaysTest {
    private static final Due due = new Due("DaysTest");

    public static void main(String[] args) {
        newObject();
        daysGo();
        daysCarryDebts();
        daysFull();
        gain();
        road();
        seat();
        due.end();
    }

    private static void newObject() {
        ChangerFair x = new ChangerFair();
        for (int what = 0; what <= 5; what++) {
            due.is("new: count(" + what + ")", 0, x.count(what));
        }
        for (int house = 0; house < 10; house++) {
            due.is("new: net(" + house + ")", 0, x.net(house));
            due.is("new: has(" + house + ", -1)", 0, x.has(house, -1));
            for (int kind = 0; kind < 4; kind++) {
                due.is("new: has", 0, x.has(house, kind));
            }
            for (int other = 0; other < 10; other++) {
                if (other != house) {
                    due.is("new: owes", 0, x.owes(house, other));
                }
            }
        }
        due.is("new: plan(true)", 0, x.plan(true));
        due.is("new: plan(false)", 0, x.plan(false));
        due.is("new: fault()", -1, x.fault());
        due.is("new: check()", 0, x.check());
        due.is("new: clear()", 0, x.clear());
        for (int k = 1; k <= 7; k++) {
            due.is("new: found(" + k + ")", 0, x.found(k));
        }
        due.is("new: about(0, 0)", Due.BEYOND, x.about(0, 0));
        due.is("new: turn()", Due.NONE, x.turn());
        for (int town = 0; town < 5; town++) {
            due.is("new: rate(" + town + ")", Due.NONE, x.rate(town));
        }
        due.is("new: binds", 1, x.binds(0, 0, 0, 0, 0));
    }

    private static void daysGo() {
        ChangerFair x = new ChangerFair();
        due.is("days(1)", 1, x.days(1));
        due.is("days(60)", 61, x.days(60));
        due.is("days(0)", Due.BEYOND, x.days(0));
        due.is("days(-1)", Due.BEYOND, x.days(-1));
        due.is("days(61)", Due.BEYOND, x.days(61));
        due.is("days(MIN)", Due.BEYOND, x.days(Integer.MIN_VALUE));
        due.is("days(MAX)", Due.BEYOND, x.days(Integer.MAX_VALUE));
        due.is("count(0)", 61, x.count(0));
        due.is("found(1)", 5, x.found(1));
    }

    private static void daysCarryDebts() {
        ChangerFair x = new ChangerFair();
        x.owe(0, 1, 149);
        x.owe(3, 2, 49);
        due.is("days(27)", 27, x.days(27));
        due.is("no gain on day 27", 149, x.owes(0, 1));
        due.is("days(1)", 28, x.days(1));
        due.is("149 with its gain, cut", 151, x.owes(0, 1));
        due.is("49 with its gain, cut to 0", 49, x.owes(3, 2));
        due.is("gain(100)", 20, x.gain(100));
        due.is("days(27)", 55, x.days(27));
        due.is("no gain before day 27 is gone", 151, x.owes(0, 1));
        due.is("days(57): three ends of fairs lie behind", 112, x.days(57));
        due.is("twice the gain, and once more", 151 + 15 + 16 + 18, x.owes(0, 1));
        due.is("49 thrice", 49 + 4 + 5 + 5, x.owes(3, 2));
        due.is("other way", 0, x.owes(1, 0));
        x.owe(9, 0, 1000);
        x.days(28);
        due.is("debts to house 0 are carried, too", 1100, x.owes(9, 0));
    }

    private static void daysFull() {
        ChangerFair x = new ChangerFair();
        x.gain(200);
        x.owe(1, 0, 1000000);
        x.owe(5, 4, 10);
        long debt = 1000000;
        long other = 10;
        long day = 0;
        while (debt + debt / 5 <= 1000000000L) {
            due.is("days(28)", day + 28, x.days(28));
            day += 28;
            debt += debt / 5;
            other += other * 200 / 1000;
        }
        due.is("grown", debt, x.owes(1, 0));
        long found = x.found(4);
        due.is("days(40) is full", Due.FULL, x.days(40));
        due.is("the days before have gone", day + 27, x.count(0));
        due.is("nothing carried", debt, x.owes(1, 0));
        due.is("nothing carried there either", other, x.owes(5, 4));
        due.is("counted once", found + 1, x.found(4));
        due.is("days(1) is full", Due.FULL, x.days(1));
        due.is("stays", day + 27, x.count(0));
        due.is("found", found + 2, x.found(4));
        x.gain(0);
        due.is("days(1) without gain", day + 28, x.days(1));
        due.is("no gain", debt, x.owes(1, 0));
        mostIsNotFull();
    }

    private static void mostIsNotFull() {
        ChangerFair x = Debts.full();
        x.gain(0);
        long day = x.count(0);
        due.is("a debt of 1000000000 may be carried", day + 60, x.days(60));
        due.is("owes", 1000000000L, x.owes(0, 1));
        x.gain(1);
        due.is("but not with a gain", Due.FULL, x.days(60));
    }

    private static void gain() {
        ChangerFair x = new ChangerFair();
        due.is("gain(0)", 20, x.gain(0));
        due.is("gain(200)", 0, x.gain(200));
        due.is("gain(201)", Due.BEYOND, x.gain(201));
        due.is("gain(-1)", Due.BEYOND, x.gain(-1));
        due.is("gain(7)", 200, x.gain(7));
        due.is("gain(7)", 7, x.gain(7));
    }

    private static void road() {
        ChangerFair x = new ChangerFair();
        for (int town = 1; town <= 4; town++) {
            due.is("road", 0, x.road(town, 30 - town));
        }
        for (int town = 1; town <= 4; town++) {
            due.is("road", 30 - town, x.road(town, 30));
        }
        due.is("road(0, 0)", Due.BEYOND, x.road(0, 0));
        due.is("road(5, 0)", Due.BEYOND, x.road(5, 0));
        due.is("road(-1, 0)", Due.BEYOND, x.road(-1, 0));
        due.is("road(1, 31)", Due.BEYOND, x.road(1, 31));
        due.is("road(1, -1)", Due.BEYOND, x.road(1, -1));
        due.is("road(1, 0)", 30, x.road(1, 0));
        due.is("road(1, 5)", 0, x.road(1, 5));
    }

    private static void seat() {
        ChangerFair x = new ChangerFair();
        for (int house = 0; house < 10; house++) {
            due.is("seat", 0, x.seat(house, house % 5));
        }
        for (int house = 0; house < 10; house++) {
            due.is("seat", house % 5, x.seat(house, 4));
        }
        due.is("seat(10, 0)", Due.BEYOND, x.seat(10, 0));
        due.is("seat(-1, 0)", Due.BEYOND, x.seat(-1, 0));
        due.is("seat(0, 5)", Due.BEYOND, x.seat(0, 5));
        due.is("seat(0, -1)", Due.BEYOND, x.seat(0, -1));
        due.is("seat(0, 0)", 4, x.seat(0, 0));
    }
}
