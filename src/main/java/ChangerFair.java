/**
 * Fairs of the money changers: bills, the custom that binds endorsers, debts and their clearing,
 * coins, rates, news and the parting of a bankrupt's sum.
 *
 * <p>The face tests every argument and tells the findings; the classes inside hold one part of the
 * state each and trust what the face hands to them.
 */
public final class ChangerFair {

    private static final long LOW = -1000000000000L;
    private static final int BEYOND = 1;
    private static final int NONE = 2;
    private static final int STATE = 3;
    private static final int FULL = 4;
    private static final int KIND = 5;
    private static final int TEXT = 6;
    private static final int DAY = 7;

    private static final int HOUSES = 10;
    private static final int TOWNS = 5;
    private static final int FAIR_DAYS = 28;
    private static final int LAST_TAKING_DAY = 6;
    private static final int MOST_DAYS_AT_ONCE = 60;
    private static final int MOST_GAIN = 200;
    private static final int MOST_ROAD = 30;
    private static final int MOST_BILLS = 40;
    private static final int MOST_AMOUNT = 100000;
    private static final int MOST_OWED_AT_ONCE = 1000000;
    private static final int MOST_SUM = 1000000000;
    private static final int MOST_TOLD = 30;
    private static final int DRAWER_INDEX = -1;
    private static final int ALL_KINDS = -1;

    private final long[] findings = new long[DAY + 1];
    private final int[] roads = new int[TOWNS];
    private final int[] seats = new int[HOUSES];
    private final Bill[] bills = new Bill[MOST_BILLS];
    private final int[] facts = new int[CustomReader.VALUES];
    private final int[] told = new int[MOST_TOLD];
    private final CustomReader reader = new CustomReader();
    private final Book book = new Book();
    private final Plan plan = new Plan();
    private final Purses purses = new Purses();
    private final Rates rates = new Rates();
    private final Parting parting = new Parting();
    private Custom custom = new Custom();
    private Custom draft = new Custom();
    private int day;
    private int gain = 20;
    private int billCount;
    private int toldCount;

    public ChangerFair() {
    }

    // ---- days, towns

    public long days(int n) {
        if (n < 1 || n > MOST_DAYS_AT_ONCE) {
            return finding(BEYOND);
        }
        for (int gone = 0; gone < n; gone++) {
            if (day % FAIR_DAYS == FAIR_DAYS - 1) {
                if (book.carryOverfills(gain)) {
                    return finding(FULL);
                }
                book.carry(gain);
            }
            day++;
        }
        return day;
    }

    public long gain(int v) {
        if (v < 0 || v > MOST_GAIN) {
            return finding(BEYOND);
        }
        int was = gain;
        gain = v;
        return was;
    }

    public long road(int town, int days) {
        if (town == 0 || !isTown(town) || days < 0 || days > MOST_ROAD) {
            return finding(BEYOND);
        }
        int was = roads[town];
        roads[town] = days;
        return was;
    }

    public long seat(int house, int town) {
        if (!isHouse(house) || !isTown(town)) {
            return finding(BEYOND);
        }
        int was = seats[house];
        seats[house] = town;
        return was;
    }

    // ---- bills

    public long draw(int kind, int drawer, int drawee, int payee, int amount) {
        if (!isBillKind(kind) || !isHouse(drawer) || !isHouse(drawee) || !isHouse(payee)
                || amount < 1 || amount > MOST_AMOUNT) {
            return finding(BEYOND);
        }
        if (drawer == payee) {
            return finding(KIND);
        }
        if (billCount >= MOST_BILLS) {
            return finding(FULL);
        }
        Bill drawn = new Bill(kind, drawer, drawee, payee, amount);
        drawn.become(Bill.DRAWN, day);
        bills[billCount] = drawn;
        billCount++;
        return billCount - 1;
    }

    public long pass(int bill, int house) {
        Bill passed = billAt(bill);
        if (passed == null || !isHouse(house)) {
            return finding(BEYOND);
        }
        if (passed.state != Bill.DRAWN && passed.state != Bill.TAKEN) {
            return finding(STATE);
        }
        if (passed.holder == house) {
            return finding(KIND);
        }
        if (!passed.hasRoomToPass()) {
            return finding(FULL);
        }
        passed.moveTo(house);
        return passed.endorserCount;
    }

    public long take(int bill, boolean refused) {
        Bill shown = billAt(bill);
        if (shown == null) {
            return finding(BEYOND);
        }
        if (shown.state != Bill.DRAWN) {
            return finding(STATE);
        }
        if (!isTakingDay()) {
            return finding(DAY);
        }
        shown.become(refused ? Bill.REFUSED : Bill.TAKEN, day);
        return shown.state;
    }

    public long pay(int bill) {
        Bill due = billAt(bill);
        if (due == null) {
            return finding(BEYOND);
        }
        if (due.state != Bill.TAKEN) {
            return finding(STATE);
        }
        if (isTakingDay()) {
            return finding(DAY);
        }
        if (overfills(due, due.drawee)) {
            return finding(FULL);
        }
        charge(due, due.drawee);
        due.become(Bill.PAID, day);
        due.paidByDrawee = true;
        return due.drawee == due.holder ? 0 : due.amount;
    }

    public long protest(int bill) {
        Bill refused = billAt(bill);
        if (refused == null) {
            return finding(BEYOND);
        }
        if (refused.state != Bill.REFUSED) {
            return finding(STATE);
        }
        refused.become(Bill.PROTESTED, day);
        return refused.daysLate();
    }

    public long recourse(int bill, int i) {
        Bill claimed = billAt(bill);
        if (claimed == null) {
            return finding(BEYOND);
        }
        if (claimed.state != Bill.PROTESTED) {
            return finding(STATE);
        }
        if (i != DRAWER_INDEX && !claimed.hasEndorser(i)) {
            return finding(NONE);
        }
        if (i != DRAWER_INDEX && !bindsEndorser(claimed, i)) {
            return finding(KIND);
        }
        int debtor = i == DRAWER_INDEX ? claimed.drawer : claimed.endorserAt(i);
        if (overfills(claimed, debtor)) {
            return finding(FULL);
        }
        charge(claimed, debtor);
        if (i == DRAWER_INDEX) {
            claimed.become(Bill.PAID, day);
        } else {
            claimed.returnTo(i);
        }
        return debtor;
    }

    public long about(int bill, int what) {
        Bill asked = billAt(bill);
        if (asked == null) {
            return finding(BEYOND);
        }
        switch (what) {
            case 0:
                return asked.kind;
            case 1:
                return asked.drawer;
            case 2:
                return asked.drawee;
            case 3:
                return asked.holder;
            case 4:
                return asked.amount;
            case 5:
                return asked.state;
            case 6:
                return asked.endorserCount;
            case 7:
            case 8:
            case 9:
            case 10:
                return asked.hasEndorser(what - 7) ? asked.endorserAt(what - 7) : finding(NONE);
            case 11:
                return asked.stateDay();
            default:
                return finding(BEYOND);
        }
    }

    public long as(int bill, int kind) {
        Bill seen = billAt(bill);
        if (seen == null || !isBillKind(kind)) {
            return finding(BEYOND);
        }
        if (kind != Bill.PLAIN && kind != seen.kind) {
            return finding(KIND);
        }
        return seen.amount;
    }

    public long knows(int house, int bill, int day) {
        Bill heard = billAt(bill);
        if (heard == null || !isHouse(house) || day < 0) {
            return finding(BEYOND);
        }
        int state = heard.latestStateBy(day - roadOf(house));
        return state < 0 ? finding(NONE) : state;
    }

    // ---- the custom

    public long feed(long eight, int n) {
        if (n < 1 || n > 8) {
            return finding(BEYOND);
        }
        if (!reader.hasRoomFor(n)) {
            return finding(FULL);
        }
        reader.append(eight, n);
        return reader.length;
    }

    public long read() {
        boolean good = reader.readText(draft);
        reader.endText(good);
        if (!good) {
            return finding(TEXT);
        }
        Custom old = custom;
        custom = draft;
        draft = old;
        return custom.clauseCount;
    }

    public long fault() {
        return reader.faultPlace;
    }

    public long binds(int late, int amount, int hops, int kind, int road) {
        if (late < 0 || amount < 0 || hops < 0 || kind < 0 || road < 0) {
            return finding(BEYOND);
        }
        return customBinds(late, amount, hops, kind, road) ? 1 : 0;
    }

    // ---- the book

    public long owe(int house, int other, int v) {
        if (!areTwoHouses(house, other) || v < 1 || v > MOST_OWED_AT_ONCE) {
            return finding(BEYOND);
        }
        if (book.overfills(house, other, v)) {
            return finding(FULL);
        }
        book.charge(house, other, v);
        return book.debt(house, other);
    }

    public long owes(int house, int other) {
        if (!areTwoHouses(house, other)) {
            return finding(BEYOND);
        }
        return book.debt(house, other);
    }

    public long net(int house) {
        if (!isHouse(house)) {
            return finding(BEYOND);
        }
        return book.balance(house);
    }

    public long plan(boolean groups) {
        plan.refresh(book);
        return groups ? plan.groupCount : plan.paymentCount;
    }

    public long payment(int i, int what) {
        if (what < 0 || what > 2) {
            return finding(BEYOND);
        }
        plan.refresh(book);
        if (!plan.hasPayment(i)) {
            return finding(NONE);
        }
        return plan.figure(i, what);
    }

    public long clear() {
        plan.refresh(book);
        book.wipe();
        for (int i = 0; i < plan.paymentCount; i++) {
            book.charge((int) plan.figure(i, 0), (int) plan.figure(i, 1), plan.figure(i, 2));
        }
        return book.total();
    }

    // ---- coins

    public long coin(int kind, int weight, int fine) {
        if (!Purses.isKind(kind) || !Purses.isMeasure(weight) || !Purses.isMeasure(fine)) {
            return finding(BEYOND);
        }
        purses.mint(kind, weight, fine);
        return purses.worth(kind);
    }

    public long purse(int house, int kind, int n) {
        if (!isHouse(house) || !Purses.isKind(kind) || !Purses.isMeasure(n)) {
            return finding(BEYOND);
        }
        int was = purses.held(house, kind);
        purses.put(house, kind, n);
        return was;
    }

    public long has(int house, int kind) {
        if (!isHouse(house) || (kind != ALL_KINDS && !Purses.isKind(kind))) {
            return finding(BEYOND);
        }
        return kind == ALL_KINDS ? purses.wealth(house) : purses.held(house, kind);
    }

    public long settle(int house, int other) {
        if (!areTwoHouses(house, other)) {
            return finding(BEYOND);
        }
        long debt = book.debt(house, other);
        if (debt == 0) {
            return finding(NONE);
        }
        long left = purses.handOver(house, other, debt);
        book.lessen(house, other, debt - left);
        return left;
    }

    // ---- rates

    public long vote(int house, int town, int v) {
        if (!isHouse(house) || !isTown(town) || !Rates.isVote(v)) {
            return finding(BEYOND);
        }
        return rates.changeVote(house, town, v);
    }

    public long rate(int town) {
        if (!isTown(town)) {
            return finding(BEYOND);
        }
        int middle = rates.middleVote(town);
        return middle == 0 ? finding(NONE) : middle;
    }

    public long offer(int from, int to, int v) {
        if (!isTown(from) || !isTown(to) || from == to || !Rates.isOffer(v)) {
            return finding(BEYOND);
        }
        return rates.changeOffer(from, to, v);
    }

    public long turn() {
        int best = rates.bestTurn();
        return best == 0 ? finding(NONE) : best;
    }

    // ---- bankrupts, what is told

    public long part(int house, int sum, int creditor) {
        if (!areTwoHouses(house, creditor) || sum < 0 || sum > MOST_SUM) {
            return finding(BEYOND);
        }
        parting.begin();
        for (int i = 0; i < billCount; i++) {
            Bill bill = bills[i];
            if (bill != null && bill.pledgedBy(house)) {
                parting.pledge(bill.holder, bill.amount);
            }
        }
        for (int other = 0; other < HOUSES; other++) {
            parting.claim(other, book.debt(house, other));
        }
        return parting.shareOf(creditor, sum);
    }

    public long tell(int v) {
        if (toldCount >= MOST_TOLD) {
            return finding(FULL);
        }
        told[toldCount] = v;
        toldCount++;
        return toldCount;
    }

    public long check() {
        plan.refresh(book);
        int waiting = toldCount;
        toldCount = 0;
        for (int i = 0; i < plan.paymentCount; i++) {
            if (!toldPayment(i, waiting)) {
                return 1 + i;
            }
        }
        return waiting > 3 * plan.paymentCount ? 99 : 0;
    }

    public long count(int what) {
        switch (what) {
            case 0:
                return day;
            case 1:
                return billCount;
            case 2:
                return custom.clauseCount;
            case 3:
                return book.total();
            case 4:
                return toldCount;
            case 5:
                return reader.length;
            default:
                return finding(BEYOND);
        }
    }

    public long found(int k) {
        if (k < BEYOND || k > DAY) {
            return finding(BEYOND);
        }
        return findings[k];
    }

    // ---- what several acts need

    private long finding(int k) {
        findings[k]++;
        return LOW - k;
    }

    private static boolean isHouse(int house) {
        return house >= 0 && house < HOUSES;
    }

    private static boolean areTwoHouses(int house, int other) {
        return isHouse(house) && isHouse(other) && house != other;
    }

    private static boolean isTown(int town) {
        return town >= 0 && town < TOWNS;
    }

    private static boolean isBillKind(int kind) {
        return kind >= Bill.PLAIN && kind <= Bill.PLEDGE;
    }

    private boolean isTakingDay() {
        return day % FAIR_DAYS <= LAST_TAKING_DAY;
    }

    private Bill billAt(int bill) {
        return bill >= 0 && bill < billCount ? bills[bill] : null;
    }

    private int roadOf(int house) {
        return roads[seats[house]];
    }

    private boolean overfills(Bill bill, int debtor) {
        return debtor != bill.holder && book.overfills(debtor, bill.holder, bill.amount);
    }

    private void charge(Bill bill, int debtor) {
        if (debtor != bill.holder) {
            book.charge(debtor, bill.holder, bill.amount);
        }
    }

    private boolean bindsEndorser(Bill bill, int i) {
        return customBinds(bill.daysLate(), bill.amount, i, bill.kind, roadOf(bill.endorserAt(i)));
    }

    private boolean customBinds(int late, int amount, int hops, int kind, int road) {
        facts[CustomReader.LATE] = late;
        facts[CustomReader.AMOUNT] = amount;
        facts[CustomReader.HOPS] = hops;
        facts[CustomReader.KIND_OF_BILL] = kind;
        facts[CustomReader.ROAD] = road;
        return custom.bindsFor(facts);
    }

    private boolean toldPayment(int i, int waiting) {
        if (3 * i + 3 > waiting) {
            return false;
        }
        for (int what = 0; what < 3; what++) {
            if (told[3 * i + what] != plan.figure(i, what)) {
                return false;
            }
        }
        return true;
    }

    /** One bill with its states and the days on which they began. */
    private static final class Bill {
        static final int PLAIN = 0;
        static final int BEARER = 1;
        static final int PLEDGE = 2;

        static final int DRAWN = 0;
        static final int TAKEN = 1;
        static final int REFUSED = 2;
        static final int PROTESTED = 3;
        static final int PAID = 4;

        private static final int MOST_ENDORSERS = 4;
        private static final int NEVER = -1;

        final int kind;
        final int drawer;
        final int drawee;
        final int amount;
        int holder;
        int state;
        int endorserCount;
        // A bill that recourse has paid is PAID too, but gives no pledge's claim.
        boolean paidByDrawee;
        private final int[] endorsers = new int[MOST_ENDORSERS];
        private final int[] began = new int[PAID + 1];

        Bill(int kind, int drawer, int drawee, int payee, int amount) {
            this.kind = kind;
            this.drawer = drawer;
            this.drawee = drawee;
            this.holder = payee;
            this.amount = amount;
            for (int s = DRAWN; s <= PAID; s++) {
                began[s] = NEVER;
            }
        }

        void become(int newState, int day) {
            state = newState;
            began[newState] = day;
        }

        int stateDay() {
            return began[state];
        }

        int daysLate() {
            return began[PROTESTED] - began[REFUSED];
        }

        // States follow one another in the order of their numbers, so the latest is the greatest.
        int latestStateBy(int day) {
            for (int s = PAID; s >= DRAWN; s--) {
                if (began[s] != NEVER && began[s] <= day) {
                    return s;
                }
            }
            return NEVER;
        }

        boolean hasEndorser(int i) {
            return i >= 0 && i < endorserCount;
        }

        int endorserAt(int i) {
            return i >= 0 && i < MOST_ENDORSERS ? endorsers[i] : NEVER;
        }

        boolean hasRoomToPass() {
            return kind == BEARER || endorserCount < MOST_ENDORSERS;
        }

        void moveTo(int house) {
            if (kind != BEARER && endorserCount < MOST_ENDORSERS) {
                endorsers[endorserCount] = holder;
                endorserCount++;
            }
            holder = house;
        }

        void returnTo(int i) {
            if (hasEndorser(i)) {
                holder = endorsers[i];
                endorserCount = i;
            }
        }

        boolean pledgedBy(int house) {
            return kind == PLEDGE && paidByDrawee && drawee == house;
        }
    }

    /** Clauses in order, each a verdict and the tests that must all hold for it. */
    private static final class Custom {
        static final int MOST_CLAUSES = 8;
        static final int MOST_TESTS = 4;

        int clauseCount;
        private final boolean[] verdicts = new boolean[MOST_CLAUSES];
        private final int[] testCounts = new int[MOST_CLAUSES];
        private final int[] values = new int[MOST_CLAUSES * MOST_TESTS];
        private final int[] signs = new int[MOST_CLAUSES * MOST_TESTS];
        private final int[] numbers = new int[MOST_CLAUSES * MOST_TESTS];

        void forget() {
            clauseCount = 0;
        }

        void addClause(boolean binding) {
            if (clauseCount < MOST_CLAUSES) {
                verdicts[clauseCount] = binding;
                testCounts[clauseCount] = 0;
                clauseCount++;
            }
        }

        void addTest(int value, int sign, int number) {
            int clause = clauseCount - 1;
            if (clause >= 0 && testCounts[clause] < MOST_TESTS) {
                int at = clause * MOST_TESTS + testCounts[clause];
                values[at] = value;
                signs[at] = sign;
                numbers[at] = number;
                testCounts[clause]++;
            }
        }

        boolean bindsFor(int[] facts) {
            for (int clause = 0; clause < clauseCount; clause++) {
                if (allTestsHold(clause, facts)) {
                    return verdicts[clause];
                }
            }
            return true;
        }

        private boolean allTestsHold(int clause, int[] facts) {
            for (int test = 0; test < testCounts[clause]; test++) {
                int at = clause * MOST_TESTS + test;
                if (!holds(facts[values[at]], signs[at], numbers[at])) {
                    return false;
                }
            }
            return true;
        }

        private static boolean holds(int fact, int sign, int number) {
            switch (sign) {
                case CustomReader.LESS:
                    return fact < number;
                case CustomReader.SAME:
                    return fact == number;
                default:
                    return fact > number;
            }
        }
    }

    /** The tape and the reading of it, word by word. */
    private static final class CustomReader {
        // The first words are the values, so that their numbers are places in a row of facts.
        static final int LATE = 0;
        static final int AMOUNT = 1;
        static final int HOPS = 2;
        static final int KIND_OF_BILL = 3;
        static final int ROAD = 4;
        static final int VALUES = 5;
        static final int LESS = 5;
        static final int SAME = 6;
        static final int MORE = 7;
        private static final int BIND = 8;
        private static final int FREE = 9;
        private static final int IF = 10;
        private static final int AND = 11;
        private static final int SEMICOLON = 12;
        private static final int NUMBER = 13;
        private static final int END = 14;
        private static final int UNKNOWN = 15;

        private static final int MOST_BYTES = 400;
        private static final int MOST_NUMBER = 999999;
        private static final int NO_FAULT = -1;

        int length;
        int faultPlace = NO_FAULT;
        private final int[] tape = new int[MOST_BYTES];
        private int place;
        private int word;
        private int wordPlace;
        private int number;

        boolean hasRoomFor(int n) {
            return length + n <= MOST_BYTES;
        }

        void append(long eight, int n) {
            for (int i = 0; i < n && length < MOST_BYTES; i++) {
                tape[length] = (int) (eight >>> (8 * i)) & 255;
                length++;
            }
        }

        // Where the reading has stopped is the fault.
        void endText(boolean good) {
            faultPlace = good ? NO_FAULT : wordPlace;
            length = 0;
        }

        boolean readText(Custom draft) {
            draft.forget();
            place = 0;
            nextWord();
            if (word == END) {
                return true;
            }
            for (int clause = 1; clause <= Custom.MOST_CLAUSES; clause++) {
                if (!readClause(draft)) {
                    return false;
                }
                if (word == END) {
                    return true;
                }
                // Behind the last clause that may stand the semicolon itself is the fault.
                if (clause < Custom.MOST_CLAUSES) {
                    nextWord();
                }
            }
            return false;
        }

        private boolean readClause(Custom draft) {
            if (word != BIND && word != FREE) {
                return false;
            }
            draft.addClause(word == BIND);
            nextWord();
            if (word != IF) {
                return word == SEMICOLON || word == END;
            }
            for (int test = 0; test < Custom.MOST_TESTS; test++) {
                nextWord();
                if (!readTest(draft)) {
                    return false;
                }
                if (word != AND) {
                    return word == SEMICOLON || word == END;
                }
            }
            return false;
        }

        private boolean readTest(Custom draft) {
            int value = word;
            if (value >= VALUES) {
                return false;
            }
            nextWord();
            int sign = word;
            if (sign != LESS && sign != SAME && sign != MORE) {
                return false;
            }
            nextWord();
            if (word != NUMBER || number > MOST_NUMBER) {
                return false;
            }
            draft.addTest(value, sign, number);
            nextWord();
            return true;
        }

        private void nextWord() {
            while (place < length && tape[place] == ' ') {
                place++;
            }
            wordPlace = place;
            if (place >= length) {
                word = END;
            } else if (isLetter(tape[place])) {
                word = letterWord();
            } else if (isFigure(tape[place])) {
                word = NUMBER;
                number = numberWord();
            } else {
                word = signWord(tape[place]);
                place++;
            }
        }

        private static boolean isLetter(int sign) {
            return sign >= 'a' && sign <= 'z';
        }

        private static boolean isFigure(int sign) {
            return sign >= '0' && sign <= '9';
        }

        private static int signWord(int sign) {
            switch (sign) {
                case '<':
                    return LESS;
                case '=':
                    return SAME;
                case '>':
                    return MORE;
                case ';':
                    return SEMICOLON;
                default:
                    return UNKNOWN;
            }
        }

        private int numberWord() {
            int figures = 0;
            while (place < length && isFigure(tape[place])) {
                // Held just above the limit, so that a long row can't wrap round to a small number.
                figures = Math.min(figures * 10 + (tape[place] - '0'), MOST_NUMBER + 1);
                place++;
            }
            return figures;
        }

        private int letterWord() {
            while (place < length && isLetter(tape[place])) {
                place++;
            }
            if (spells("bind")) {
                return BIND;
            }
            if (spells("free")) {
                return FREE;
            }
            if (spells("if")) {
                return IF;
            }
            if (spells("and")) {
                return AND;
            }
            if (spells("late")) {
                return LATE;
            }
            if (spells("amount")) {
                return AMOUNT;
            }
            if (spells("hops")) {
                return HOPS;
            }
            if (spells("kind")) {
                return KIND_OF_BILL;
            }
            return spells("road") ? ROAD : UNKNOWN;
        }

        private boolean spells(String letters) {
            if (place - wordPlace != letters.length()) {
                return false;
            }
            for (int i = 0; i < letters.length(); i++) {
                if (tape[wordPlace + i] != letters.charAt(i)) {
                    return false;
                }
            }
            return true;
        }
    }

    /** What each house owes each other one, never both of two. */
    private static final class Book {
        private static final long MOST_DEBT = 1000000000L;

        // Told to the plan, which is worked out anew only when the book has changed.
        long changes;
        private final long[][] debts = new long[HOUSES][HOUSES];

        long debt(int house, int other) {
            return debts[house][other];
        }

        // Clearing can heap a debt up above the most, and one that is only made less may stay there,
        // so what the other one would owe still is asked about too.
        boolean overfills(int house, int other, long v) {
            return Math.abs(debts[house][other] - debts[other][house] + v) > MOST_DEBT;
        }

        void charge(int house, int other, long v) {
            long more = debts[house][other] - debts[other][house] + v;
            debts[house][other] = Math.max(more, 0L);
            debts[other][house] = Math.max(-more, 0L);
            changes++;
        }

        void lessen(int house, int other, long v) {
            debts[house][other] -= v;
            changes++;
        }

        void wipe() {
            for (int house = 0; house < HOUSES; house++) {
                for (int other = 0; other < HOUSES; other++) {
                    debts[house][other] = 0;
                }
            }
            changes++;
        }

        long balance(int house) {
            long net = 0;
            for (int other = 0; other < HOUSES; other++) {
                net += debts[other][house] - debts[house][other];
            }
            return net;
        }

        long total() {
            long sum = 0;
            for (int house = 0; house < HOUSES; house++) {
                for (int other = 0; other < HOUSES; other++) {
                    sum += debts[house][other];
                }
            }
            return sum;
        }

        boolean carryOverfills(int gain) {
            for (int house = 0; house < HOUSES; house++) {
                for (int other = 0; other < HOUSES; other++) {
                    if (carried(debts[house][other], gain) > MOST_DEBT) {
                        return true;
                    }
                }
            }
            return false;
        }

        void carry(int gain) {
            for (int house = 0; house < HOUSES; house++) {
                for (int other = 0; other < HOUSES; other++) {
                    debts[house][other] = carried(debts[house][other], gain);
                }
            }
            changes++;
        }

        private static long carried(long debt, int gain) {
            return debt + debt * gain / 1000;
        }
    }

    /** The fewest payments that clear a book, worked out over sets of houses as bits. */
    private static final class Plan {
        private static final int SETS = 1 << HOUSES;

        int groupCount;
        int paymentCount;
        private final long[] left = new long[HOUSES];
        private final long[] sums = new long[SETS];
        // The sets of nets 0 together, the lesser as bits first, and how many groups each can make.
        private final int[] zeroSets = new int[SETS];
        private final int[] mostGroups = new int[SETS];
        private final int[] payers = new int[HOUSES];
        private final int[] payees = new int[HOUSES];
        private final long[] amounts = new long[HOUSES];
        private int zeroSetCount;
        private long changesSeen = -1;

        void refresh(Book book) {
            if (changesSeen == book.changes) {
                return;
            }
            changesSeen = book.changes;
            groupCount = 0;
            paymentCount = 0;
            int rest = readNets(book);
            addUp();
            listZeroSets(rest);
            countGroups();
            for (int i = 0; i < HOUSES && rest != 0; i++) {
                int group = firstGroup(rest);
                payWithin(group);
                groupCount++;
                rest ^= group;
            }
        }

        boolean hasPayment(int i) {
            return i >= 0 && i < paymentCount;
        }

        long figure(int i, int what) {
            if (!hasPayment(i)) {
                return 0;
            }
            switch (what) {
                case 0:
                    return payers[i];
                case 1:
                    return payees[i];
                default:
                    return amounts[i];
            }
        }

        private int readNets(Book book) {
            int all = 0;
            for (int house = 0; house < HOUSES; house++) {
                left[house] = book.balance(house);
                if (left[house] != 0) {
                    all |= 1 << house;
                }
            }
            return all;
        }

        private void addUp() {
            for (int house = 0; house < HOUSES; house++) {
                int one = 1 << house;
                for (int set = 0; set < one; set++) {
                    sums[set | one] = sums[set] + left[house];
                }
            }
        }

        private void listZeroSets(int all) {
            zeroSetCount = 0;
            for (int set = 1; set <= all; set++) {
                if ((set & all) == set && sums[set] == 0) {
                    zeroSets[zeroSetCount] = set;
                    zeroSetCount++;
                }
            }
        }

        // Sets come in the order of their numbers, so all parts of a set are counted before it.
        private void countGroups() {
            for (int i = 0; i < zeroSetCount; i++) {
                int whole = zeroSets[i];
                int most = 1;
                for (int j = 0; j < i; j++) {
                    if (mayBeFirst(zeroSets[j], whole)) {
                        most = Math.max(most, 1 + mostGroups[whole ^ zeroSets[j]]);
                    }
                }
                mostGroups[whole] = most;
            }
        }

        private static boolean mayBeFirst(int set, int whole) {
            int least = whole & -whole;
            return (set & whole) == set && (set & least) != 0;
        }

        private int firstGroup(int rest) {
            for (int i = 0; i < zeroSetCount; i++) {
                int set = zeroSets[i];
                if (mayBeFirst(set, rest) && mostGroups[rest ^ set] + 1 == mostGroups[rest]) {
                    return set;
                }
            }
            return rest;
        }

        private void payWithin(int group) {
            for (int i = 0; i < HOUSES; i++) {
                int payer = leastOf(group, -1);
                int payee = leastOf(group, 1);
                if (payer < 0 || payee < 0 || paymentCount >= HOUSES) {
                    return;
                }
                long amount = Math.min(-left[payer], left[payee]);
                left[payer] += amount;
                left[payee] -= amount;
                payers[paymentCount] = payer;
                payees[paymentCount] = payee;
                amounts[paymentCount] = amount;
                paymentCount++;
            }
        }

        private int leastOf(int group, int side) {
            for (int house = 0; house < HOUSES; house++) {
                if ((group & (1 << house)) != 0 && left[house] * side > 0) {
                    return house;
                }
            }
            return -1;
        }
    }

    /** The kinds of coins and how many of each every house has. */
    private static final class Purses {
        private static final int KINDS = 4;
        private static final int MOST = 1000;

        private final int[] worths = new int[KINDS];
        private final int[][] coins = new int[HOUSES][KINDS];

        static boolean isKind(int kind) {
            return kind >= 0 && kind < KINDS;
        }

        static boolean isMeasure(int n) {
            return n >= 0 && n <= MOST;
        }

        void mint(int kind, int weight, int fine) {
            worths[kind] = weight * fine / 1000;
        }

        int worth(int kind) {
            return worths[kind];
        }

        int held(int house, int kind) {
            return coins[house][kind];
        }

        void put(int house, int kind, int n) {
            coins[house][kind] = n;
        }

        long wealth(int house) {
            long sum = 0;
            for (int kind = 0; kind < KINDS; kind++) {
                sum += (long) coins[house][kind] * worths[kind];
            }
            return sum;
        }

        long handOver(int house, int other, long debt) {
            long left = debt;
            int done = 0;
            for (int i = 0; i < KINDS; i++) {
                int kind = dearestBut(done);
                if (kind < 0 || worths[kind] <= 0) {
                    return left;
                }
                done |= 1 << kind;
                int room = Math.min(coins[house][kind], MOST - coins[other][kind]);
                int moved = (int) Math.min((long) room, left / worths[kind]);
                coins[house][kind] -= moved;
                coins[other][kind] += moved;
                left -= (long) moved * worths[kind];
            }
            return left;
        }

        private int dearestBut(int done) {
            int best = -1;
            for (int kind = 0; kind < KINDS; kind++) {
                if ((done & (1 << kind)) == 0 && (best < 0 || worths[kind] > worths[best])) {
                    best = kind;
                }
            }
            return best;
        }
    }

    /** Votes for the towns' rates, offers between towns, and the turn that gains most. */
    private static final class Rates {
        private static final int LEAST_VOTE = 5000;
        private static final int MOST_VALUE = 20000;
        private static final int SHORTEST_TURN = 2;
        private static final int LONGEST_TURN = 4;
        private static final long UNIT = 10000L;
        private static final long PAR = UNIT * UNIT * UNIT * UNIT;

        private final int[][] votes = new int[TOWNS][HOUSES];
        private final int[][] offers = new int[TOWNS][TOWNS];
        private final int[] sorted = new int[HOUSES];

        static boolean isVote(int v) {
            return v == 0 || (v >= LEAST_VOTE && v <= MOST_VALUE);
        }

        static boolean isOffer(int v) {
            return v >= 0 && v <= MOST_VALUE;
        }

        int changeVote(int house, int town, int v) {
            int was = votes[town][house];
            votes[town][house] = v;
            return was;
        }

        int changeOffer(int from, int to, int v) {
            int was = offers[from][to];
            offers[from][to] = v;
            return was;
        }

        int middleVote(int town) {
            int n = 0;
            for (int house = 0; house < HOUSES; house++) {
                if (votes[town][house] != 0) {
                    insertSorted(votes[town][house], n);
                    n++;
                }
            }
            return n == 0 ? 0 : sorted[(n - 1) / 2];
        }

        private void insertSorted(int v, int n) {
            int at = n;
            while (at > 0 && sorted[at - 1] > v) {
                sorted[at] = sorted[at - 1];
                at--;
            }
            sorted[at] = v;
        }

        // Rings are tried in the order in which equal ones are preferred, so only a greater product
        // takes the place of one found before.
        int bestTurn() {
            long bestProduct = PAR;
            int best = 0;
            // Brings the products of shorter turns to the same measure as those of the longest.
            long scale = UNIT * UNIT;
            int rings = TOWNS * TOWNS;
            for (int towns = SHORTEST_TURN; towns <= LONGEST_TURN; towns++) {
                for (int ring = 0; ring < rings; ring++) {
                    long product = scale * productOf(ring, towns);
                    if (product > bestProduct) {
                        bestProduct = product;
                        best = figuresOf(ring, towns);
                    }
                }
                scale = scale / UNIT;
                rings = rings * TOWNS;
            }
            return best;
        }

        // A ring is the number whose figures to the base TOWNS are its towns, so that rings in order
        // are numbers in order. 0: its towns are no turn told from its least town on.
        private long productOf(int ring, int towns) {
            int last = ring % TOWNS;
            int next = last;
            int used = 1 << last;
            int ahead = ring / TOWNS;
            long product = 1;
            for (int i = 1; i < towns; i++) {
                int town = ahead % TOWNS;
                if ((used & (1 << town)) != 0) {
                    return 0;
                }
                used |= 1 << town;
                product *= offers[town][next];
                next = town;
                ahead = ahead / TOWNS;
            }
            boolean fromLeast = (used & ((1 << next) - 1)) == 0;
            return fromLeast ? product * offers[last][next] : 0;
        }

        private static int figuresOf(int ring, int towns) {
            int figures = 0;
            int unit = 1;
            int ahead = ring;
            for (int i = 0; i < towns; i++) {
                figures += ahead % TOWNS * unit;
                unit *= 10;
                ahead = ahead / TOWNS;
            }
            return unit + figures;
        }
    }

    /** A bankrupt's sum parted by ranks: claims by pledges first, then the rest of what is owed. */
    private static final class Parting {
        private static final long SPLIT = 32768L;

        private final long[] pledged = new long[HOUSES];
        private final long[] rest = new long[HOUSES];

        void begin() {
            for (int house = 0; house < HOUSES; house++) {
                pledged[house] = 0;
            }
        }

        void pledge(int holder, int amount) {
            pledged[holder] += amount;
        }

        void claim(int house, long debt) {
            pledged[house] = Math.min(pledged[house], debt);
            rest[house] = debt - pledged[house];
        }

        long shareOf(int creditor, long sum) {
            long behind = Math.max(sum - total(pledged), 0L);
            return shareIn(pledged, creditor, sum) + shareIn(rest, creditor, behind);
        }

        private static long total(long[] claims) {
            long all = 0;
            for (int house = 0; house < HOUSES; house++) {
                all += claims[house];
            }
            return all;
        }

        private static long shareIn(long[] claims, int creditor, long sum) {
            long all = total(claims);
            if (sum >= all || claims[creditor] == 0) {
                return claims[creditor];
            }
            long leftOver = sum;
            int ahead = 0;
            for (int house = 0; house < HOUSES; house++) {
                leftOver -= portion(sum, claims[house], all);
                if (house < creditor && claims[house] > 0) {
                    ahead++;
                }
            }
            long share = portion(sum, claims[creditor], all);
            return ahead < leftOver ? share + 1 : share;
        }

        // The sum times the claim can pass what a long holds once clearing has heaped debts up,
        // so the sum is multiplied in two pieces.
        private static long portion(long sum, long claim, long all) {
            if (all <= 0) {
                return 0;
            }
            long high = sum / SPLIT * claim;
            long low = high % all * SPLIT + sum % SPLIT * claim;
            return high / all * SPLIT + low / all;
        }
    }
}
