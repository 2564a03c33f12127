/** The acts of ChangerFair by name, with their arguments in a row (a boolean: 0 or another number). */
final class Acts {
    private Acts() {
    }

    static long call(ChangerFair x, String act, long... a) {
        int[] i = new int[5];
        for (int n = 0; n < a.length; n++) {
            i[n] = (int) a[n];
        }
        switch (act) {
            case "days": return x.days(i[0]);
            case "gain": return x.gain(i[0]);
            case "road": return x.road(i[0], i[1]);
            case "seat": return x.seat(i[0], i[1]);
            case "draw": return x.draw(i[0], i[1], i[2], i[3], i[4]);
            case "pass": return x.pass(i[0], i[1]);
            case "take": return x.take(i[0], i[1] != 0);
            case "pay": return x.pay(i[0]);
            case "protest": return x.protest(i[0]);
            case "recourse": return x.recourse(i[0], i[1]);
            case "about": return x.about(i[0], i[1]);
            case "as": return x.as(i[0], i[1]);
            case "knows": return x.knows(i[0], i[1], i[2]);
            case "feed": return x.feed(a[0], i[1]);
            case "read": return x.read();
            case "fault": return x.fault();
            case "binds": return x.binds(i[0], i[1], i[2], i[3], i[4]);
            case "owe": return x.owe(i[0], i[1], i[2]);
            case "owes": return x.owes(i[0], i[1]);
            case "net": return x.net(i[0]);
            case "plan": return x.plan(i[0] != 0);
            case "payment": return x.payment(i[0], i[1]);
            case "clear": return x.clear();
            case "coin": return x.coin(i[0], i[1], i[2]);
            case "purse": return x.purse(i[0], i[1], i[2]);
            case "has": return x.has(i[0], i[1]);
            case "settle": return x.settle(i[0], i[1]);
            case "vote": return x.vote(i[0], i[1], i[2]);
            case "rate": return x.rate(i[0]);
            case "offer": return x.offer(i[0], i[1], i[2]);
            case "turn": return x.turn();
            case "part": return x.part(i[0], i[1], i[2]);
            case "tell": return x.tell(i[0]);
            case "check": return x.check();
            case "count": return x.count(i[0]);
            case "found": return x.found(i[0]);
            default: throw new AssertionError(act);
        }
    }
}
