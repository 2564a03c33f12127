/** Promises 15 to 18: feed, read, fault, binds. */
public final class CustomTest {
    private static final Due due = new Due("CustomTest");

    public static void main(String[] args) {
        feed();
        readGood();
        readFaults();
        readLimits();
        readKeepsCustom();
        binds();
        firstClauseWins();
        due.end();
    }

    private static void feed() {
        ChangerFair x = new ChangerFair();
        due.is("n 0", Due.BEYOND, x.feed(0, 0));
        due.is("n 9", Due.BEYOND, x.feed(0, 9));
        due.is("n -1", Due.BEYOND, x.feed(0, -1));
        due.is("one byte", 1, x.feed('f', 1));
        due.is("the lowest bytes, the lowest first", 4, x.feed(0x7F7F7F7F7F656572L, 3));
        due.is("count(5)", 4, x.count(5));
        due.is("read 'free'", 1, x.read());
        due.is("binds", 0, x.binds(0, 0, 0, 0, 0));
        due.is("the tape is empty", 0, x.count(5));
        for (int i = 1; i <= 49; i++) {
            due.is("feed", 8L * i, x.feed(0x2020202020202020L, 8));
        }
        due.is("up to 399", 399, x.feed(0x20202020202020L, 7));
        due.is("401", Due.FULL, x.feed(0x2020, 2));
        due.is("BEYOND is asked before FULL", Due.BEYOND, x.feed(0x2020, 9));
        due.is("400", 400, x.feed(' ', 1));
        due.is("401", Due.FULL, x.feed(' ', 1));
        due.is("count(5)", 400, x.count(5));
        due.is("blanks alone are nothing", 0, x.read());
        due.is("the tape is empty", 0, x.count(5));
        due.is("all eight bytes", 8, x.feed(-1L, 8));
        due.is("read bytes 255", Due.TEXT, x.read());
        due.is("fault()", 0, x.fault());
    }

    private static void good(String text, long clauses) {
        ChangerFair x = new ChangerFair();
        due.is("read '" + text + "'", clauses, Due.read(x, text));
        due.is("fault() of '" + text + "'", -1, x.fault());
        due.is("count(2) of '" + text + "'", clauses, x.count(2));
        due.is("count(5) of '" + text + "'", 0, x.count(5));
    }

    private static void bad(String text, long fault) {
        ChangerFair x = new ChangerFair();
        due.is("read '" + text + "'", Due.TEXT, Due.read(x, text));
        due.is("fault() of '" + text + "'", fault, x.fault());
        due.is("count(2) of '" + text + "'", 0, x.count(2));
        due.is("count(5) of '" + text + "'", 0, x.count(5));
        due.is("found(6)", 1, x.found(6));
    }

    private static void readGood() {
        good("", 0);
        good("   ", 0);
        good("bind", 1);
        good("  free  ", 1);
        good("bind;free", 2);
        good("bind ; free;bind ", 3);
        good("free if late<3", 1);
        good("free if late<3and amount=999999and hops>0", 1);
        good("bind if road = 000000000000000007 ; free", 2);
        good("bind if late<1 and late<2 and late<3 and late<4", 1);
        good("bind;bind;bind;bind;bind;bind;bind;bind", 8);
        good("free if kind=2;bind", 2);
    }

    private static void readFaults() {
        bad(";", 0);
        bad("  ;", 2);
        bad("bind;", 5);
        bad("bind;  ", 7);
        bad("bind;;free", 5);
        bad("bind free", 5);
        bad("bindfree", 0);
        bad("if late < 3", 0);
        bad("late < 3", 0);
        bad("17", 0);
        bad("<", 0);
        bad("bind if", 7);
        bad("bind if  ", 9);
        bad("bind if ;", 8);
        bad("bind if if", 8);
        bad("bind if lates < 3", 8);
        bad("bind if lat < 3", 8);
        bad("bind if late", 12);
        bad("bind if late 3", 13);
        bad("bind if late3", 12);
        bad("bind if late <", 14);
        bad("bind if late < <3", 15);
        bad("bind if late <= 3", 14);
        bad("bind if late < amount", 15);
        bad("bind if late < 3 if", 17);
        bad("bind if late < 3 4", 17);
        bad("bind if late < 3 and", 20);
        bad("bind if late < 3 and ;", 21);
        bad("bind if late < 3 and bind", 21);
        bad("bind if late < 3 bind", 17);
        bad("bind and late < 3", 5);
        bad("bind if late < -3", 15);
        bad("bind if late < 1000000", 15);
        bad("bind if late < 99999999999999999999", 15);
        bad("bind if late < 4294967297", 15);
        bad("Bind", 0);
        bad("bInd", 1 - 1);
        bad("bind!", 4);
        bad("bind\tif", 4);
        bad("bind \n", 5);
        bad("bind if late , 3", 13);
        bad("bind" + (char) 233, 4);
        bad("bind" + (char) 0, 4);
        bad("bind free !", 5);
        bad("bind ! free free", 5);
        bad("bindz", 0);
        bad("zbind", 0);
        bad("bind if < 3", 8);
        bad("bind if = 3", 8);
        bad("bind if 3 < late", 8);
        bad("bind if late bind 3", 13);
        bad("bind if late ; 3", 13);
        bad("{", 0);
        bad("`", 0);
        bad("bind if late < 3:", 16);
        bad("bind if late < /", 15);
    }

    private static void readLimits() {
        bad("bind;bind;bind;bind;bind;bind;bind;bind;bind", 39);
        bad("bind;bind;bind;bind;bind;bind;bind;bind;", 39);
        bad("bind;bind;bind;bind;bind;bind;bind;bind !", 40);
        bad("bind if late<1 and late<2 and late<3 and late<4 and late<5", 48);
        bad("bind if late<1 and late<2 and late<3 and late<4 and", 48);
        good("bind if late<1 and late<2 and late<3 and late<4;"
                + "free if late<1 and late<2 and late<3 and late<4", 2);
        StringBuilder longest = new StringBuilder();
        for (int i = 0; i < 8; i++) {
            longest.append(i == 0 ? "" : ";").append("bind if");
            for (int j = 0; j < 4; j++) {
                longest.append(j == 0 ? "" : "and").append(" hops>1");
            }
        }
        good(longest.toString(), 8);
    }

    private static void readKeepsCustom() {
        ChangerFair x = new ChangerFair();
        Due.read(x, "free if late > 3; bind if hops = 1; free");
        due.is("binds", 0, x.binds(4, 0, 1, 0, 0));
        due.is("a text with a fault in its second clause", Due.TEXT, Due.read(x, "bind; bund"));
        due.is("fault()", 6, x.fault());
        due.is("count(2)", 3, x.count(2));
        due.is("binds as before", 0, x.binds(4, 0, 1, 0, 0));
        due.is("binds as before", 1, x.binds(3, 0, 1, 0, 0));
        due.is("binds as before", 0, x.binds(3, 0, 2, 0, 0));
        due.is("read", Due.TEXT, Due.read(x, "bind; bindfree"));
        due.is("feeding leaves the fault", 4, Due.feed(x, "bind"));
        due.is("fault()", 6, x.fault());
        due.is("read", 1, x.read());
        due.is("fault()", -1, x.fault());
        due.is("binds", 1, x.binds(4, 0, 1, 0, 0));
        due.is("bytes of an earlier tape are no more there", 1, Due.read(x, "free"));
        due.is("read", 1, Due.read(x, "free if late > 77777"));
        due.is("read", 1, Due.read(x, "free if late > 7"));
        due.is("the number is 7", 0, x.binds(8, 0, 0, 0, 0));
        due.is("read nothing", 0, x.read());
        due.is("count(2)", 0, x.count(2));
    }

    private static void binds() {
        ChangerFair x = new ChangerFair();
        due.is("no clauses", 1, x.binds(Integer.MAX_VALUE, 5, 4, 3, 2));
        due.is("late", Due.BEYOND, x.binds(-1, 0, 0, 0, 0));
        due.is("amount", Due.BEYOND, x.binds(0, -1, 0, 0, 0));
        due.is("hops", Due.BEYOND, x.binds(0, 0, -1, 0, 0));
        due.is("kind", Due.BEYOND, x.binds(0, 0, 0, -1, 0));
        due.is("road", Due.BEYOND, x.binds(0, 0, 0, 0, -1));
        String[] values = {"late", "amount", "hops", "kind", "road"};
        String[] signs = {"<", "=", ">"};
        for (int value = 0; value < values.length; value++) {
            for (int sign = 0; sign < signs.length; sign++) {
                Due.read(x, "free if " + values[value] + signs[sign] + "7");
                for (int v = 6; v <= 8; v++) {
                    int[] facts = {100, 100, 100, 100, 100};
                    facts[value] = v;
                    boolean freed = sign == 0 ? v < 7 : sign == 1 ? v == 7 : v > 7;
                    due.is(values[value] + signs[sign] + "7 of " + v, freed ? 0 : 1,
                            x.binds(facts[0], facts[1], facts[2], facts[3], facts[4]));
                }
            }
        }
    }

    private static void firstClauseWins() {
        ChangerFair x = new ChangerFair();
        Due.read(x, "bind if hops < 2 and kind = 2 and road > 4 and amount > 10; free if hops < 2; bind");
        due.is("all tests hold", 1, x.binds(0, 11, 1, 2, 5));
        due.is("the first doesn't", 1, x.binds(0, 11, 2, 2, 5));
        due.is("the second doesn't", 0, x.binds(0, 11, 1, 1, 5));
        due.is("the third doesn't", 0, x.binds(0, 11, 1, 2, 4));
        due.is("the fourth doesn't", 0, x.binds(0, 10, 1, 2, 5));
        Due.read(x, "free if late > 9");
        due.is("without a clause that holds: bound", 1, x.binds(9, 0, 0, 0, 0));
        due.is("freed", 0, x.binds(10, 0, 0, 0, 0));
    }
}
