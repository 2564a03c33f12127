/** Edges of promises 15 to 18 (the custom), and of point 2 of the terms. */
final class CustomEdges {
    private static final String FOUR_TESTS = "late<1 and late<2 and late<3 and late<4";

    private final Sentences s;

    CustomEdges(Sentences s) {
        this.s = s;
    }

    void run() {
        clausesInOrder();
        clauseLimit();
        testLimit();
        testSigns();
        values();
        words();
        numbers();
        faultOfByte();
        faultOfWord();
        faultOfEnd();
        faultOfLimit();
        feedBytes();
        feedBeyond();
        feedFull();
        readClauses();
        readText();
        fault();
        binds();
    }

    private void good(String text, long clauses) {
        ChangerFair x = new ChangerFair();
        s.is("read() of '" + text + "'", clauses, Due.read(x, text));
        s.is("fault() of '" + text + "'", -1, x.fault());
        s.is("count(2) of '" + text + "'", clauses, x.count(2));
    }

    private void bad(String text, long fault) {
        ChangerFair x = new ChangerFair();
        s.is("read() of '" + text + "'", Due.TEXT, Due.read(x, text));
        s.is("fault() of '" + text + "'", fault, x.fault());
        s.is("count(2) of '" + text + "'", 0, x.count(2));
    }

    private static String clauses(int many) {
        StringBuilder text = new StringBuilder("bind");
        for (int i = 1; i < many; i++) {
            text.append(";bind");
        }
        return text.toString();
    }

    private void clausesInOrder() {
        s.point(2, "THE CUSTOM: CLAUSES, in order; the first all of whose TESTS hold binds or frees;");
        ChangerFair x = new ChangerFair();
        Due.read(x, "free if late = 1 and hops = 1; bind if late = 1; free");
        s.ask(x, 0, "binds", 1, 0, 1, 0, 0);
        s.ask(x, 1, "binds", 1, 0, 0, 0, 0);
        s.ask(x, 0, "binds", 0, 0, 1, 0, 0);
        s.ask(x, 0, "binds", 0, 0, 0, 0, 0);
        Due.read(x, clauses(7).replace("bind", "bind if late = 1") + ";free if late > 1");
        s.is("the eighth clause", 0, x.binds(2, 0, 0, 0, 0));
        Due.read(x, "free if late > 0 and late > 1 and late > 2 and late > 3");
        s.is("the fourth test", 1, x.binds(3, 0, 0, 0, 0));
        s.is("the fourth test", 0, x.binds(4, 0, 0, 0, 0));
        s.point(2, "without such a one: bound.");
        s.ask(x, 1, "binds", 0, 0, 0, 0, 0);
        s.point(2, "(No CLAUSES at first.)");
        ChangerFair y = new ChangerFair();
        s.ask(y, 0, "count", 2);
        s.ask(y, 1, "binds", 0, 0, 0, 0, 0);
        s.ask(y, 1, "binds", Integer.MAX_VALUE, 9, 9, 9, 9);
    }

    private void clauseLimit() {
        s.point(2, "TEXT: CLAUSE { ; CLAUSE } (at most 8), or nothing;");
        for (int many = 1; many <= 8; many++) {
            good(clauses(many), many);
        }
        bad(clauses(9), 39);
        good("", 0);
        good(" ", 0);
        bad(";", 0);
        bad("bind;", 5);
        bad("bind;;bind", 5);
        bad("bind bind", 5);
    }

    private void testLimit() {
        s.point(2, "CLAUSE: ( bind | free ) [ if TEST { and TEST } ] (at most 4 TESTS);");
        good("bind", 1);
        good("free", 1);
        good("bind if late<1", 1);
        good("bind if late<1 and late<2", 1);
        good("bind if late<1 and late<2 and late<3", 1);
        good("bind if " + FOUR_TESTS, 1);
        bad("bind if " + FOUR_TESTS + " and late<5", 48);
        s.is("four in each clause", 3, Due.read(new ChangerFair(),
                "bind if " + FOUR_TESTS + ";free if " + FOUR_TESTS + ";bind if " + FOUR_TESTS));
        bad("if late<1", 0);
        bad("bind late<1", 5);
        bad("bind and late<1", 5);
        bad("bind if late<1 late<2", 15);
        bad("bind if late<1 if late<2", 15);
        bad("bind if", 7);
    }

    private void testSigns() {
        s.point(2, "TEST: VALUE ( < | = | > ) NUMBER;");
        String[] signs = {"<", "=", ">"};
        long[][] want = {{0, 1, 1}, {1, 0, 1}, {1, 1, 0}};
        ChangerFair x = new ChangerFair();
        for (int sign = 0; sign < 3; sign++) {
            Due.read(x, "free if amount " + signs[sign] + " 999999");
            for (int i = 0; i < 3; i++) {
                s.is(signs[sign], want[sign][i], x.binds(0, 999998 + i, 0, 0, 0));
            }
            Due.read(x, "free if amount " + signs[sign] + " 0");
            s.is("0 " + signs[sign] + " 0", want[sign][1], x.binds(0, 0, 0, 0, 0));
            s.is("1 " + signs[sign] + " 0", want[sign][2], x.binds(0, 1, 0, 0, 0));
        }
        bad("free if late", 12);
        bad("free if late<", 13);
        bad("free if <1", 8);
        bad("free if late 1", 13);
        bad("free if 1<late", 8);
        bad("free if late<late", 13);
        bad("free if late<<1", 13);
        bad("free if late<=1", 13);
        bad("free if late;1", 12);
    }

    private void values() {
        s.point(2, "VALUE: late (days from being REFUSED to being PROTESTED)");
        ChangerFair x = new ChangerFair();
        x.road(4, 30);
        x.seat(4, 4);
        x.days(2);
        x.draw(2, 0, 1, 2, 100000);
        x.pass(0, 3);
        x.pass(0, 4);
        x.pass(0, 5);
        x.days(3);
        x.take(0, true);
        x.days(29);
        x.protest(0);
        x.days(8);
        s.is("not from being drawn, nor to this day", Due.KIND, recourseUnder(x, 0, "free if late=29"));
        s.point(2, "amount");
        s.is("amount", Due.KIND, recourseUnder(x, 0, "free if amount=100000"));
        s.point(2, "hops (i)");
        s.is("hops 0", Due.KIND, recourseUnder(x, 0, "free if hops=0"));
        s.is("hops 2", Due.KIND, recourseUnder(x, 2, "free if hops=2"));
        s.point(2, "kind");
        s.is("kind", Due.KIND, recourseUnder(x, 0, "free if kind=2"));
        s.point(2, "road (days of the road of the ENDORSER's SEAT).");
        s.is("road 30", Due.KIND, recourseUnder(x, 2, "free if road=30"));
        s.is("road 0", Due.KIND, recourseUnder(x, 1, "free if road=0"));
        x.seat(5, 4);
        s.is("not that of the holder", Due.KIND, recourseUnder(x, 1, "free if road<1"));
        s.is("bound", 4, recourseUnder(x, 2, "free if road<30;free if late<29;free if late>29;free if hops<2;free if hops>2;"
                + "free if kind<2;free if amount<100000;free if road>30"));
        s.point(2, "VALUE:");
        bad("free if days=1", 8);
        bad("free if lates=1", 8);
        bad("free if lat=1", 8);
        bad("free if bind=1", 8);
    }

    private static long recourseUnder(ChangerFair x, int i, String text) {
        Due.read(x, text);
        return x.recourse(0, i);
    }

    private void words() {
        s.point(2, "WORDS are rows of letters a .. z,");
        bad("binda", 0);
        bad("bindz", 0);
        bad("bind`", 4);
        bad("bind{", 4);
        bad("Bind", 0);
        bad("binD", 0);
        bad("zbind", 0);
        s.point(2, "the signs < = > ;");
        bad("bind if late:1", 12);
        bad("bind if late?1", 12);
        bad("bind:free", 4);
        good("bind;free if late<1;free if late=1;free if late>1", 4);
        s.point(2, "with blanks (32) between or not.");
        good("free if late<3and amount=4and hops>5;bind", 2);
        good("  free   if  late  <  3  and  amount  =  4  ;  bind  ", 2);
        bad("freeif late<3", 0);
        bad("fr ee", 0);
        bad("free if late<3 4", 15);
        bad("free" + (char) 31 + "if late<3", 4);
        bad("free" + (char) 33 + "if late<3", 4);
        bad("free\tif late<3", 4);
        bad("free\nif late<3", 4);
        bad("free" + (char) 160 + "if late<3", 4);
    }

    private void numbers() {
        s.point(2, "rows of figures (a NUMBER; 999999 at most),");
        good("free if late<0", 1);
        good("free if late<9", 1);
        good("free if late<999999", 1);
        good("free if late<0000000999999", 1);
        bad("free if late<1000000", 13);
        bad("free if late<0001000000", 13);
        bad("free if late<4294967296", 13);
        bad("free if late<18446744073709551616", 13);
        bad("free if late</", 13);
        bad("free if late<:", 13);
        bad("free if late<-1", 13);
        bad("free if late<+1", 13);
        bad("free if late<1.0", 14);
    }

    private void faultOfByte() {
        s.point(2, "FAULT: the place of the first byte that begins no word,");
        for (int sign = 0; sign < 256; sign++) {
            String text = "free" + (char) sign;
            if (sign == ' ') {
                good(text, 1);
            } else if (sign >= 'a' && sign <= 'z') {
                bad(text, 0);
            } else if (sign == ';') {
                bad(text, 5);
            } else {
                bad(text, 4);
            }
        }
        bad("!", 0);
        bad("  !", 2);
        bad("free ! !", 5);
        bad("free ! free free", 5);
    }

    private void faultOfWord() {
        s.point(2, "or word (its first byte;");
        bad("  bund", 2);
        bad("free; bund", 6);
        bad("free free !", 5);
        bad("free if late < amount", 15);
        s.point(2, "that can't stand there");
        String[] words = {"bind", "free", "if", "and", "late", "7", "<", ";", "x", ""};
        String[] before = {"", "free ", "free if ", "free if late ", "free if late < ", "free if late < 5 ", "free ; "};
        // Which of the words may stand behind each beginning; the last is the end of the text.
        String[] fits = {"1100000001", "0010000101", "0000100000", "0000001000", "0000010000", "0001000101", "1100000000"};
        for (int i = 0; i < before.length; i++) {
            for (int w = 0; w < words.length; w++) {
                if (fits[i].charAt(w) == '0') {
                    bad(before[i] + words[w], before[i].length());
                } else {
                    s.is(before[i] + words[w] + " !", before[i].length() + words[w].length() + (words[w].isEmpty() ? 0 : 1),
                            faultOf(before[i] + words[w] + (words[w].isEmpty() ? "!" : " !")));
                }
            }
        }
    }

    private static long faultOf(String text) {
        ChangerFair x = new ChangerFair();
        Due.read(x, text);
        return x.fault();
    }

    private void faultOfEnd() {
        s.point(2, "the length of the text, if that ends too soon)");
        bad("free;", 5);
        bad("free;   ", 8);
        bad("free if", 7);
        bad("free if late", 12);
        bad("free if late <", 14);
        bad("free if late < 3 and", 20);
        bad("free if late < 3 and  ", 22);
        String longest = "free;" + " ".repeat(395);
        bad(longest, 400);
        s.is("a whole tape of one word", 0, faultOf("f".repeat(400)));
        good(" ".repeat(396) + "free", 1);
        bad(" ".repeat(397) + "fre", 397);
        good("free if late<" + "0".repeat(386) + "7", 1);
    }

    private void faultOfLimit() {
        s.point(2, "or passes a limit (of CLAUSES: the ; ; of TESTS: the and).");
        bad(clauses(8) + ";", 39);
        bad(clauses(8) + ";bund", 39);
        bad(clauses(8) + "  ;", 41);
        bad(clauses(12), 39);
        bad("bind if " + FOUR_TESTS + "and", 47);
        bad("bind if " + FOUR_TESTS + " and bund", 48);
        bad("bind;bind if " + FOUR_TESTS + "  and late<1", 54);
        bad("bind if late<1000000 and", 13);
    }

    private void feedBytes() {
        s.promise(15, "The n lowest bytes of eight come to the tape, the lowest first: how many there are.");
        ChangerFair x = new ChangerFair();
        s.ask(x, 4, "feed", 0x21212121_65657266L, 4);
        s.ask(x, 4, "count", 5);
        s.ask(x, 1, "read");
        s.is("'free'", 0, x.binds(0, 0, 0, 0, 0));
        s.ask(x, 8, "feed", 0x20202020_646E6962L, 8);
        s.ask(x, 9, "feed", ';', 1);
        s.ask(x, 16, "feed", 0x80202020_65657266L, 7);
        s.ask(x, 2, "read");
        s.ask(x, 8, "feed", -1L, 8);
        s.ask(x, Due.TEXT, "read");
        s.ask(x, 0, "fault");
        s.is("the eighth byte", 8, x.feed(0xFF20202020202020L, 8));
        x.read();
        s.ask(x, 7, "fault");
    }

    private void feedBeyond() {
        s.promise(15, "BEYOND: n isn't 1 .. 8.");
        ChangerFair x = new ChangerFair();
        s.ask(x, Due.BEYOND, "feed", ' ', 0);
        s.ask(x, Due.BEYOND, "feed", ' ', -1);
        s.ask(x, Due.BEYOND, "feed", ' ', 9);
        s.ask(x, Due.BEYOND, "feed", ' ', Integer.MIN_VALUE);
        s.ask(x, Due.BEYOND, "feed", ' ', Integer.MAX_VALUE);
        s.ask(x, 0, "count", 5);
        for (int n = 1; n <= 8; n++) {
            s.ask(x, n * (n + 1) / 2, "feed", 0x2020202020202020L, n);
        }
    }

    private void feedFull() {
        s.promise(15, "FULL: there would be more than 400.");
        for (int n = 1; n <= 8; n++) {
            ChangerFair x = new ChangerFair();
            for (int i = 0; i < 49; i++) {
                x.feed(0x2020202020202020L, 8);
            }
            if (n < 8) {
                x.feed(0x2020202020202020L, 8 - n);
            }
            if (n < 8) {
                s.is("one too many", Due.FULL, x.feed(0x2020202020202020L, n + 1));
            }
            s.is("still", 400 - n, x.count(5));
            s.is("just 400", 400, x.feed(0x2020202020202020L, n));
            s.is("none more", Due.FULL, x.feed(' ', 1));
            s.is("none more", Due.FULL, x.feed(' ', 8));
            s.is("400 still", 400, x.count(5));
            s.is("read", 0, x.read());
            s.is("there is room again", 8, x.feed(0x2020202020202020L, 8));
        }
    }

    private void readClauses() {
        s.promise(16, "The tape (empty then) is THE CUSTOM: how many CLAUSES.");
        ChangerFair x = new ChangerFair();
        s.is("an empty tape", 0, x.read());
        s.is("eight", 8, Due.read(x, clauses(8)));
        s.is("the tape is empty", 0, x.count(5));
        s.is("count(2)", 8, x.count(2));
        s.is("one", 1, Due.read(x, "free"));
        s.is("the custom of before is no more", 0, x.binds(0, 0, 0, 0, 0));
        s.is("an empty tape", 0, x.read());
        s.is("no custom", 1, x.binds(0, 0, 0, 0, 0));
        s.is("count(2)", 0, x.count(2));
    }

    private void readText() {
        s.promise(16, "TEXT: it has a FAULT (THE CUSTOM stays).");
        ChangerFair x = new ChangerFair();
        Due.read(x, "free if hops = 1; bind");
        String[] texts = {"bund", "bind; free; bund", "free;", "bind if late<1000000", clauses(9), "!"};
        for (String text : texts) {
            s.is("read() of " + text, Due.TEXT, Due.read(x, text));
            s.is("the tape is empty", 0, x.count(5));
            s.is("count(2)", 2, x.count(2));
            s.is("hops 1", 0, x.binds(0, 0, 1, 0, 0));
            s.is("hops 0", 1, x.binds(0, 0, 0, 0, 0));
        }
        s.ask(x, texts.length, "found", 6);
    }

    private void fault() {
        s.promise(17, "Where the latest read()'s FAULT was; -1: it had none, or nothing was read. (No finding.)");
        ChangerFair x = new ChangerFair();
        s.is("nothing was read", -1, x.fault());
        Due.feed(x, "free !");
        s.is("fed, not read", -1, x.fault());
        x.read();
        s.is("a fault", 5, x.fault());
        s.is("still", 5, x.fault());
        Due.feed(x, "!");
        s.is("fed, not read", 5, x.fault());
        x.read();
        s.is("the latest", 0, x.fault());
        x.read();
        s.is("an empty tape has none", -1, x.fault());
        Due.read(x, "free !");
        Due.read(x, "free");
        s.is("a good text has none", -1, x.fault());
        for (int k = 1; k <= 7; k++) {
            s.is("found(" + k + ")", k == 6 ? 3 : 0, x.found(k));
        }
    }

    private void binds() {
        s.promise(18, "Whether THE CUSTOM binds (1, 0) for these values.");
        ChangerFair x = new ChangerFair();
        Due.read(x, "free if late=1;free if amount=2;free if hops=3;free if kind=4;free if road>999999");
        s.ask(x, 1, "binds", 0, 0, 0, 0, 0);
        s.ask(x, 1, "binds", 2, 3, 4, 1, 999999);
        s.ask(x, 0, "binds", 1, 0, 0, 0, 0);
        s.ask(x, 0, "binds", 0, 2, 0, 0, 0);
        s.ask(x, 0, "binds", 0, 0, 3, 0, 0);
        s.ask(x, 0, "binds", 0, 0, 0, 4, 0);
        s.ask(x, 0, "binds", 0, 0, 0, 0, 1000000);
        s.ask(x, 0, "binds", 0, 0, 0, 0, Integer.MAX_VALUE);
        s.promise(18, "BEYOND: one is below 0.");
        for (int i = 0; i < 5; i++) {
            long[] values = {7, 7, 7, 7, 7};
            values[i] = -1;
            s.ask(x, Due.BEYOND, "binds", values);
            values[i] = Integer.MIN_VALUE;
            s.ask(x, Due.BEYOND, "binds", values);
            values[i] = 0;
            s.ask(x, 1, "binds", values);
        }
        s.is("without a custom, too", Due.BEYOND, new ChangerFair().binds(0, 0, 0, 0, -1));
    }
}
