/** The edges of a new object, of texts, of the market's and the rule's text, of promises 1 to 10. */
public final class EdgesMarketTest {
    private static final Edge EDGE = new Edge();
    private static final String EIGHT = "1;2;3;4;5;6;7;8";
    private static final String FIVE_THINGS = "t0-1*1,0;t0-1*2,1;t0-1*3,2;t0-1*4,3;t0-1*5,4";
    // Fourteen lines of 70 signs in all.
    private static final String SEVENTY = Edge.times("f0-1;", 14);

    public static void main(String[] args) {
        nobody();
        counts();
        bonds();
        fourSigns();
        tooManySigns();
        firstSigns();
        lines();
        linesInOrder();
        howLinesAreBuilt();
        everySignInALine();
        tooEarlyAnEnd();
        tooLongAMarket();
        faultsInTheFirst76();
        whoIsNotThere();
        valuesOfNothing();
        noRoom();
        nothingOfItComes();
        emptyTexts();
        ruleOfFortySigns();
        everySignInARule();
        ruleThatEndsTooEarly();
        comparisons();
        sums();
        products();
        minuses();
        numbersAndBrackets();
        letters();
        intsAndLimits();
        ruleThatFails();
        asksOfPeople();
        asksOfThings();
        betweenTwo();
        laws();
        sheetOfEachKind();
        sheetWithoutSense();
        EDGE.end(1, 10);
    }

    private static OnlyHalves two() {
        return Edge.with("", "10;20");
    }

    // ---- a new object

    private static void nobody() {
        EDGE.says(1, "Nobody.");
        OnlyHalves x = new OnlyHalves();
        for (int what = 0; what < 8; what++) {
            EDGE.due("count(" + what + ")", x.count(what), 0);
        }
        EDGE.due("of(0, 0)", Edge.of(x, 0, 0), Edge.THROWN);
        EDGE.due("thing(0, 0)", Edge.thing(x, 0, 0), Edge.THROWN);
        EDGE.says(0, "TODAY is a number, at first 0.");
        EDGE.due("today()", new OnlyHalves().today(), 0);
        EDGE.says(0, "R at first 1");
        EDGE.due("seed(5)", new OnlyHalves().seed(5), 1);
        EDGE.says(0, "sort 0 .. 2, at first 0");
        EDGE.due("law(0, 2)", new OnlyHalves().law(0, 2), 0);
        EDGE.says(0, "FEE 0 .. 99, at first 0");
        EDGE.due("law(1, 99)", new OnlyHalves().law(1, 99), 0);
        EDGE.says(0, "public static final int NONE = -1;");
        EDGE.due("NONE", OnlyHalves.NONE, -1);
    }

    private static void counts() {
        EDGE.says(0, "PEOPLE 0 .. (at most 8)");
        OnlyHalves x = new OnlyHalves();
        EDGE.due("eight", Edge.market(x, EIGHT), 8);
        EDGE.due("count(0)", x.count(0), 8);
        EDGE.due("a ninth", Edge.market(x, "9"), -1);
        EDGE.due("count(0)", x.count(0), 8);
        EDGE.says(0, "COIN 0 .. 999.");
        x = Edge.with("", "0;999");
        EDGE.due("of(0, 0)", Edge.of(x, 0, 0), 0);
        EDGE.due("of(1, 0)", Edge.of(x, 1, 0), 999);
        EDGE.says(0, "THINGS 0 .. (at most 10)");
        x = Edge.with("", EIGHT, FIVE_THINGS);
        EDGE.due("ten", Edge.market(x, FIVE_THINGS), 5);
        EDGE.due("count(1)", x.count(1), 10);
        EDGE.due("an eleventh", Edge.market(x, "t0-1*1,0"), -1);
        EDGE.due("count(1)", x.count(1), 10);
        EDGE.says(0, "two HALVES (number 2 t and 2 t + 1 of THING t)");
        EDGE.due("of(0, 1)", Edge.of(x, 0, 1), 0x55555);
        EDGE.due("of(1, 1)", Edge.of(x, 1, 1), 0xaaaaa);
        EDGE.due("of(2, 1)", Edge.of(x, 2, 1), 0);
        EDGE.due("worth(19, 1)", x.worth(19, 1), 5);
        EDGE.due("worth(20, 1)", x.worth(20, 1), -1);
        EDGE.says(0, "a VALUE 1 .. 99, a KIND 0 .. 9");
        x = Edge.with("", "1;2;t0-1*1,0;t0-1*99,9");
        EDGE.due("VALUE", Edge.thing(x, 0, 0), 1);
        EDGE.due("VALUE", Edge.thing(x, 1, 0), 99);
        EDGE.due("KIND", Edge.thing(x, 0, 1), 0);
        EDGE.due("KIND", Edge.thing(x, 1, 1), 9);
    }

    private static void bonds() {
        EDGE.says(0, "Each two are FRIENDS, or in QUARREL, or neither (at first).");
        OnlyHalves x = Edge.with("", EIGHT);
        for (int one = 0; one < 8; one++) {
            for (int other = 0; other < 8; other++) {
                if (one != other) {
                    int is = (one + other) % 3;
                    EDGE.due("at first", x.between(one, other, is), one < other ? 0 : is);
                }
            }
        }
        for (int one = 0; one < 8; one++) {
            int friends = 0;
            int foes = 0;
            for (int other = 0; other < 8; other++) {
                friends |= one != other && (one + other) % 3 == 1 ? 1 << other : 0;
                foes |= one != other && (one + other) % 3 == 2 ? 1 << other : 0;
            }
            EDGE.due("FRIENDS of " + one, Edge.of(x, one, 2), friends);
            EDGE.due("in QUARREL with " + one, Edge.of(x, one, 3), foes);
        }
    }

    // ---- texts

    private static void fourSigns() {
        EDGE.says(2, "of v the highest byte first: how many it has");
        OnlyHalves x = new OnlyHalves();
        EDGE.due("sign", x.sign('1' << 24 | '2' << 16 | ';' << 8 | '3'), 4);
        EDGE.due("sign", x.sign('4' << 24 | '5' << 16 | ';' << 8 | '6'), 8);
        EDGE.due("market()", x.market(), 3);
        EDGE.due("of(0, 0)", Edge.of(x, 0, 0), 12);
        EDGE.due("of(1, 0)", Edge.of(x, 1, 0), 345);
        EDGE.due("of(2, 0)", Edge.of(x, 2, 0), 6);
        EDGE.says(2, "Four signs come behind THE TEXT");
        EDGE.due("sign(0)", x.sign(0), 4);
        EDGE.due("four signs of 0", x.market(), -1);
        EDGE.due("sign(-1)", x.sign(-1), 4);
        EDGE.due("four signs of 255", x.market(), -1);
        EDGE.due("sign", x.sign(0x80000000 | '1'), 4);
        EDGE.due("first sign 128", x.market(), -1);
        EDGE.due("sign", x.sign('1' << 24 | 0x800000), 4);
        EDGE.due("second sign 128", x.market(), -2);
        EDGE.due("sign", x.sign('1' << 24 | '1' << 16 | '1' << 8 | 0xb1), 4);
        EDGE.due("fourth sign 128 and 1", x.market(), -4);
    }

    private static void tooManySigns() {
        EDGE.says(2, "Refused: there would be more than 80.");
        for (int n = 73; n <= 80; n++) {
            OnlyHalves x = new OnlyHalves();
            for (int i = 1; i <= 20; i++) {
                EDGE.due("sign", x.sign(0x31313131), 4 * i);
            }
            x.end(n);
            if (n <= 76) {
                EDGE.due("sign behind " + n, x.sign(0x31313131), n + 4);
            } else {
                EDGE.refused(x, "sign behind " + n, () -> x.sign(0x31313131));
                EDGE.due("end(" + (n + 1) + ")", x.end(n + 1), false);
            }
        }
        OnlyHalves x = new OnlyHalves();
        for (int i = 0; i < 20; i++) {
            x.sign(0x313b323b);
        }
        EDGE.due("a 21st", x.sign(0x78787878), -1);
        x.end(3);
        EDGE.due("what stood there stays", x.market(), 2);
    }

    private static void firstSigns() {
        EDGE.says(3, "THE TEXT has its first n signs alone: true");
        OnlyHalves x = new OnlyHalves();
        x.sign('1' << 24 | ';' << 16 | '2' << 8 | '3');
        EDGE.due("end(4)", x.end(4), true);
        EDGE.due("end(3)", x.end(3), true);
        EDGE.due("count(7)", x.count(7), 3);
        EDGE.due("market()", x.market(), 2);
        EDGE.due("of(1, 0)", Edge.of(x, 1, 0), 2);
        EDGE.due("end(0) of none", x.end(0), true);
        EDGE.says(3, "false if it has not so many");
        EDGE.stays(x, "end(1)", 0, () -> x.end(1) ? 1 : 0);
        x.sign(0);
        EDGE.stays(x, "end(5)", 0, () -> x.end(5) ? 1 : 0);
        EDGE.stays(x, "end(max)", 0, () -> x.end(Integer.MAX_VALUE) ? 1 : 0);
        EDGE.due("end(3)", x.end(3), true);
        EDGE.stays(x, "end(4)", 0, () -> x.end(4) ? 1 : 0);
        EDGE.says(3, "or n is below 0");
        EDGE.stays(x, "end(-1)", 0, () -> x.end(-1) ? 1 : 0);
        EDGE.stays(x, "end(min)", 0, () -> x.end(Integer.MIN_VALUE) ? 1 : 0);
    }

    // ---- the market

    private static void lines() {
        EDGE.says(4, "how many LINES");
        EDGE.due("one", Edge.market(new OnlyHalves(), "7"), 1);
        EDGE.due("eight", Edge.market(new OnlyHalves(), EIGHT), 8);
        EDGE.due("twenty", Edge.market(new OnlyHalves(), EIGHT + Edge.times(";f0-7", 12)), 20);
        EDGE.due("fifteen", Edge.market(two(), SEVENTY + "q1-0"), 15);
        EDGE.says(0, "COIN (1 to 3 digits)");
        OnlyHalves x = Edge.with("", "0;00;000;9;09;009;99;999");
        int[] coin = {0, 0, 0, 9, 9, 9, 99, 999};
        for (int i = 0; i < 8; i++) {
            EDGE.due("COIN", Edge.of(x, i, 0), coin[i]);
        }
        EDGE.due("four digits", Edge.market(two(), "1234"), -4);
        EDGE.due("no digits", Edge.market(two(), "1;;2"), -3);
        EDGE.says(0, "VALUE (1 or 2 digits)");
        x = Edge.with("", "1;2;t0-1*9,0;t0-1*09,0;t0-1*99,0");
        EDGE.due("VALUE", Edge.thing(x, 0, 0), 9);
        EDGE.due("VALUE", Edge.thing(x, 1, 0), 9);
        EDGE.due("VALUE", Edge.thing(x, 2, 0), 99);
        EDGE.due("three digits", Edge.market(two(), "t0-1*100,1"), -8);
        EDGE.due("no digits", Edge.market(two(), "t0-1*,1"), -6);
        EDGE.says(0, "KIND (a digit)");
        EDGE.due("two digits", Edge.market(two(), "t0-1*1,12"), -9);
        EDGE.due("no digit", Edge.market(two(), "t0-1*1,;1"), -8);
    }

    private static void linesInOrder() {
        EDGE.says(0, "what they tell comes behind what there is");
        OnlyHalves x = two();
        EDGE.due("market", Edge.market(x, "30;t2-0*5,1;40"), 3);
        EDGE.due("of(2, 0)", Edge.of(x, 2, 0), 30);
        EDGE.due("of(3, 0)", Edge.of(x, 3, 0), 40);
        EDGE.due("of(0, 0)", Edge.of(x, 0, 0), 10);
        EDGE.due("market", Edge.market(x, "t3-1*6,2"), 1);
        EDGE.due("thing(0, 2)", Edge.thing(x, 0, 2), 2);
        EDGE.due("thing(1, 2)", Edge.thing(x, 1, 2), 3);
        EDGE.due("thing(1, 3)", Edge.thing(x, 1, 3), 1);
        EDGE.says(0, "or f (FRIENDS) or q (QUARREL), one of PEOPLE, -, another one, which they are then");
        EDGE.due("market", Edge.market(x, "f0-1;q0-1;q3-2;f2-3"), 4);
        EDGE.due("QUARREL", x.between(1, 0, 0), 2);
        EDGE.due("FRIENDS", x.between(2, 3, 0), 1);
    }

    private static void fault(OnlyHalves x, String told, int at) {
        EDGE.due("market \"" + told + "\"", Edge.market(x, told), -1 - at);
    }

    private static void howLinesAreBuilt() {
        EDGE.says(4, "-1 - p: the sign at p can't stand there");
        String[] told = {"x", "1;x", "1;2x", "-1", "F0-1", "T0-1*1,1", " 1", "1 ;2", "t0*1*1,1", "t0-1-1,1", "t0-1*1;1",
            "t0-1*1,1,", "t0-1*1,x", "t0-1*x,1", "tx-1*1,1", "t0-x*1,1", "t00-1*1,1", "f0+1", "f0-1-", "f-0-1", "q0-1*1", "1,2"};
        int[] at = {0, 2, 3, 0, 0, 0, 0, 1, 2, 4, 6, 8, 7, 5, 1, 3, 2, 2, 4, 1, 4, 1};
        for (int i = 0; i < told.length; i++) {
            fault(two(), told[i], at[i]);
            fault(two(), "7;" + told[i], 2 + at[i]);
            fault(two(), told[i] + ";7", at[i]);
        }
    }

    private static void everySignInALine() {
        EDGE.says(0, "PEOPLE are digits.");
        for (int sign = 0; sign < 256; sign++) {
            boolean isDigit = sign >= '0' && sign <= '9';
            boolean isThere = sign == '0' || sign == '1';
            boolean isStart = sign == 't' || sign == 'f' || sign == 'q';
            String told = String.valueOf((char) sign);
            EDGE.due("the first sign " + sign, Edge.market(two(), told), isDigit ? 1 : isStart ? -2 : -1);
            EDGE.due("COIN and " + sign, Edge.market(two(), "1" + told), isDigit ? 1 : sign == ';' ? -3 : -2);
            EDGE.due("t and " + sign, Edge.market(two(), "t" + told), isThere ? -3 : -2);
            EDGE.due("q and " + sign, Edge.market(two(), "q" + told), isThere ? -3 : -2);
            EDGE.due("t0 and " + sign, Edge.market(two(), "t0" + told), sign == '-' ? -4 : -3);
            EDGE.due("f0- and " + sign, Edge.market(two(), "f0-" + told), sign == '1' ? 1 : -4);
            EDGE.due("t0-1 and " + sign, Edge.market(two(), "t0-1" + told), sign == '*' ? -6 : -5);
            int value = sign == ',' ? -8 : isDigit ? -8 : -7;
            EDGE.due("t0-1*1 and " + sign, Edge.market(two(), "t0-1*1" + told), value);
            EDGE.due("t0-1*1, and " + sign, Edge.market(two(), "t0-1*1," + told), isDigit ? 1 : -8);
            EDGE.due("t0-1*1,1 and " + sign, Edge.market(two(), "t0-1*1,1" + told), sign == ';' ? -10 : -9);
        }
    }

    private static void tooEarlyAnEnd() {
        EDGE.says(4, "its end, if it ends too early");
        String whole = "12;t0-1*34,5;f0-1;q1-2";
        for (int n = 1; n <= whole.length(); n++) {
            String told = whole.substring(0, n);
            boolean ends = n == 1 || n == 2 || n == 12 || n == 17 || n == 22;
            int lines = told.length() - told.replace(";", "").length() + 1;
            EDGE.due("market \"" + told + "\"", Edge.market(two(), told), ends ? lines : -1 - n);
        }
        fault(new OnlyHalves(), "1;", 2);
        fault(two(), SEVENTY + "f0-1;", 75);
        fault(two(), SEVENTY + "12;34;", 76);
        fault(two(), SEVENTY + "t0-1*1", 76);
    }

    private static void tooLongAMarket() {
        EDGE.says(4, "76, if it has more and the first 76 could go on or end");
        EDGE.due("76 signs", Edge.market(two(), SEVENTY + "f0-1;1"), 16);
        EDGE.due("76 signs", Edge.market(two(), SEVENTY + "123;45"), 16);
        fault(two(), SEVENTY + "f0-1;12", 76);
        fault(two(), SEVENTY + "f0-1;1;", 76);
        fault(two(), SEVENTY + "f0-1;1xxx", 76);
        fault(two(), SEVENTY + "f0-1;t0-1", 76);
        fault(two(), SEVENTY + "f0-1;;", 75);
        fault(two(), SEVENTY + "1;f0-1x", 76);
        fault(two(), SEVENTY + "123;4567", 76);
        fault(two(), SEVENTY + "1;t0-1*5", 76);
        fault(two(), SEVENTY + "t0-1*5xx", 76);
        fault(two(), SEVENTY + "t0-1*567", 76);
        fault(two(), SEVENTY + "12;t0-x", 76);
        fault(two(), SEVENTY + "123;f0*", 76);
        fault(two(), SEVENTY + "f0-1;q9", 76);
        fault(two(), SEVENTY + "f0-1;t0-1*", 76);
        fault(two(), SEVENTY + "123456", 73);
        EDGE.says(0, "THE MARKET is a text of at most 76 signs");
        OnlyHalves x = two();
        fault(x, SEVENTY + "12;345;", 76);
        EDGE.due("nobody came", x.count(0), 2);
        EDGE.due("no FRIENDS", Edge.of(x, 0, 2), 0);
        fault(x, SEVENTY + "12;3456", 76);
        EDGE.due("76 signs", Edge.market(x, SEVENTY + "12;345"), 16);
        EDGE.due("two came", x.count(0), 4);
        EDGE.due("of(3, 0)", Edge.of(x, 3, 0), 345);
    }

    private static void faultsInTheFirst76() {
        EDGE.says(4, "76, if it has more and the first 76 could go on or end");
        fault(two(), "x" + SEVENTY + "f0-1;1xx", 0);
        fault(two(), SEVENTY + "f0-1;x234", 75);
        fault(two(), SEVENTY + "f0-1xx234", 74);
        fault(two(), SEVENTY + "q0-0;q0-1;", 73);
        fault(two(), SEVENTY + "12;f9-1;1", 74);
        fault(two(), SEVENTY + "1;t0-0*1", 75);
        fault(two(), SEVENTY + "1;t0-3*1", 75);
        OnlyHalves x = Edge.with("", EIGHT);
        fault(x, SEVENTY + "f0-1;1;", 75);
        fault(x, SEVENTY + "f0-1;t1", 76);
    }

    private static void whoIsNotThere() {
        EDGE.says(4, "one that is not there, or the same as the first one: at its digit");
        String[] told = {"t2-0*1,1", "t0-2*1,1", "t8-9*1,1", "t9-0*1,1", "t0-0*1,1", "t1-1*1,1",
            "f2-0", "f0-2", "f0-0", "f1-1", "q2-0", "q0-2", "q1-1", "q9-0", "q0-9"};
        int[] at = {1, 3, 1, 1, 3, 3, 1, 3, 3, 3, 1, 3, 3, 1, 3};
        for (int i = 0; i < told.length; i++) {
            fault(two(), told[i], at[i]);
            fault(two(), told[i].substring(0, at[i] + 1), at[i]);
        }
        fault(two(), "1;t0-3*1,1", 5);
        fault(two(), "1;f3-0", 3);
        EDGE.due("one told ahead in the text", Edge.market(two(), "1;t0-2*1,1"), 2);
        EDGE.due("one told ahead in the text", Edge.market(two(), "1;1;q3-2"), 3);
        fault(two(), "f0-2;1", 3);
        fault(two(), "t2-0*1,1;1", 1);
        OnlyHalves x = Edge.with("", EIGHT);
        EDGE.due("the eighth", Edge.market(x, "f7-0"), 1);
        fault(x, "f8-0", 1);
        fault(x, "f0-8", 3);
        fault(new OnlyHalves(), "f0-1", 1);
        fault(new OnlyHalves(), "1;f0-1", 5);
    }

    private static void valuesOfNothing() {
        EDGE.says(4, "a VALUE of 0, as far as it stands in the first 76: at its last digit");
        fault(two(), "t0-1*0,1", 5);
        fault(two(), "t0-1*00,1", 6);
        fault(two(), "t0-1*000,1", 6);
        fault(two(), "t0-1*001,1", 6);
        fault(two(), "t0-1*0", 5);
        fault(two(), "t0-1*00", 6);
        fault(two(), "t0-1*0x", 5);
        fault(two(), "t0-1*00x", 6);
        fault(two(), "t0-1*0;1", 5);
        EDGE.due("not of 0", Edge.market(two(), "t0-1*01,1"), 1);
        EDGE.due("not of 0", Edge.market(two(), "t0-1*10,1"), 1);
        // The VALUE's first digit stands at 75, the last sign of the first 76; then at 74; then at 76.
        fault(two(), SEVENTY + "t0-1*0", 75);
        fault(two(), SEVENTY + "t0-1*05,1", 75);
        fault(two(), SEVENTY + "t0-1*00,1", 75);
        fault(two(), SEVENTY + "t0-1*50,1", 76);
        String sixtyNine = Edge.times("f0-1;", 13) + "123;";
        fault(two(), sixtyNine + "t0-1*00,1", 75);
        fault(two(), sixtyNine + "t0-1*0,1", 74);
        fault(two(), sixtyNine + "t0-1*05,1", 76);
        fault(two(), SEVENTY + "1;t0-1*00", 76);
    }

    private static void noRoom() {
        EDGE.says(4, "the first sign of a LINE of PEOPLE or of a THING for which there is no room");
        OnlyHalves x = Edge.with("", EIGHT);
        fault(x, "1", 0);
        fault(x, "12345", 0);
        fault(x, "f0-1;1", 5);
        fault(x, "x1", 0);
        fault(Edge.with("", "1;2;3;4;5;6;7"), "8;9;x", 2);
        fault(new OnlyHalves(), "1;2;3;4;5;6;7;8;999;x", 16);
        EDGE.due("a THING when PEOPLE are full", Edge.market(x, FIVE_THINGS), 5);
        fault(x, FIVE_THINGS + ";t0-1*1,1", 45);
        fault(x, FIVE_THINGS + ";tx", 45);
        fault(x, FIVE_THINGS + ";t", 45);
        fault(x, FIVE_THINGS + ";t0-0*0,1", 45);
        EDGE.due("ten", Edge.market(x, FIVE_THINGS), 5);
        fault(x, "t", 0);
        fault(x, "t0-1*1,1", 0);
        fault(x, "f0-1;t0-1*1,1", 5);
        EDGE.due("FRIENDS when all is full", Edge.market(x, "f0-1;q6-7"), 2);
        x = Edge.with("", "1;2", FIVE_THINGS, FIVE_THINGS);
        EDGE.due("PEOPLE when THINGS are full", Edge.market(x, "5;f0-2"), 2);
    }

    private static void nothingOfItComes() {
        EDGE.says(4, "Nothing of it comes, if a LINE can't.");
        String[] told = {"5;6;f0-1;t0-1*1,1;x", "f0-1;q0-1;q0-0", "t0-1*1,1;t0-1*2,2;t0-1*0,1", "5;", "5;t0-2*7,1;f2-9",
            "q0-1;1;1;1;1;1;1;1", SEVENTY + "5;6;7;8;"};
        for (String all : told) {
            OnlyHalves x = Edge.with("c", "10;20;t0-1*30,4");
            x.pair();
            x.use(0);
            Edge.text(x, all);
            int signs = x.count(7);
            EDGE.due("signs", signs, all.length());
            String before = Edge.all(x);
            EDGE.due("market() of \"" + all + "\"", x.market() < 0, true);
            EDGE.due("count(7)", x.count(7), 0);
            Edge.text(x, Edge.times("x", signs));
            EDGE.due("nothing came", Edge.all(x).equals(before), true);
        }
        EDGE.says(0, "(what a TEXT tells wrongly aside)");
        fault(two(), "x", 0);
        fault(two(), "1x", 1);
        fault(two(), "12x", 2);
        EDGE.says(0, "change nothing but THE TEXT, which a call that reads it empties");
        OnlyHalves x = two();
        fault(x, "x", 0);
        EDGE.due("count(7)", x.count(7), 0);
        EDGE.due("market() of the emptied text", x.market(), 0);
        Edge.text(x, "<");
        EDGE.due("rule()", x.rule(), -1);
        EDGE.due("count(7)", x.count(7), 0);
        EDGE.due("rule() of the emptied text", x.rule(), 0);
    }

    private static void emptyTexts() {
        EDGE.says(4, "(an empty one: nothing)");
        OnlyHalves x = two();
        EDGE.stays(x, "market()", 0, x::market);
        Edge.text(x, "1");
        x.market();
        EDGE.stays(x, "market() once more", 0, x::market);
        EDGE.says(5, "(an empty one: none): 0");
        x = Edge.with("7", "10;20;t0-1*30,4");
        EDGE.due("of the rule", x.worth(0, 0), 7);
        EDGE.due("rule()", x.rule(), 0);
        EDGE.due("VALUE", x.worth(0, 0), 30);
        EDGE.says(0, "(at first none: VALUE)");
        x = Edge.with("", "10;20;t0-1*30,4;t0-1*99,4");
        EDGE.due("worth(1, 1)", x.worth(1, 1), 30);
        EDGE.due("worth(2, 0)", x.worth(2, 0), 99);
    }

    // ---- the rule

    private static int ruled(String told) {
        OnlyHalves x = Edge.with("", "11;22;33;t0-1*40,3;t2-1*50,3;t0-2*60,3;t1-2*5,4;f0-1;q1-2");
        EDGE.due("rule \"" + told + "\"", Edge.rule(x, told), 0);
        return x.worth(0, 0);
    }

    private static void is(String told, int want) {
        EDGE.due("\"" + told + "\"", ruled(told), want);
    }

    private static void ruleFault(String told, int at) {
        OnlyHalves x = Edge.with("c+1", "10;20;t0-1*10,1");
        EDGE.due("rule \"" + told + "\"", Edge.rule(x, told), -1 - at);
        EDGE.due("count(7)", x.count(7), 0);
        EDGE.due("the rule stays", x.worth(0, 0), 11);
    }

    private static void ruleOfFortySigns() {
        EDGE.says(0, "THE RULE is a text of at most 40 signs");
        String thirtySix = "1" + Edge.times("+1", 17) + "+";
        is(thirtySix + "1+23", 42);
        ruleFault(thirtySix + "1+(2", 40);
        is(Edge.times("-", 39) + "1", 0);
        is(Edge.times("-", 38) + "1", 1);
        is("(" + Edge.times("1+", 18) + "11)", 29);
        EDGE.says(5, "-1 - p: as market() (40 signs)");
        ruleFault(thirtySix + "1+234", 40);
        ruleFault(thirtySix + "1+23+", 40);
        ruleFault(thirtySix + "1+23x", 40);
        ruleFault(thirtySix + "1+2+1", 40);
        ruleFault(thirtySix + "1+2(3", 39);
        ruleFault(thirtySix + "1+2x3", 39);
        ruleFault(thirtySix + "1+(12", 40);
        ruleFault(thirtySix + "1+*12", 38);
        ruleFault(thirtySix + "1234", 39);
        ruleFault(thirtySix + "12345", 39);
        ruleFault(thirtySix + "11+1x", 40);
        ruleFault(Edge.times("-", 40), 40);
        ruleFault(Edge.times("-", 41), 40);
        ruleFault(Edge.times("-", 80), 40);
        ruleFault(Edge.times("-", 39) + "+1", 39);
        ruleFault(Edge.times("-", 40) + "1", 40);
        ruleFault("(" + Edge.times("1+", 18) + "111)", 40);
        ruleFault("x" + Edge.times("1+", 39), 0);
    }

    private static void everySignInARule() {
        EDGE.says(5, "-1 - p: as market() (40 signs)");
        for (int sign = 0; sign < 256; sign++) {
            boolean isDigit = sign >= '0' && sign <= '9';
            boolean isLetter = sign > 0 && "iocvkhfqs".indexOf(sign) >= 0;
            boolean isBinding = sign > 0 && "<>=+-*/".indexOf(sign) >= 0;
            boolean isAhead = sign == '-' || sign == '(';
            String told = String.valueOf((char) sign);
            EDGE.due("the first sign " + sign, Edge.rule(two(), told), isDigit || isLetter ? 0 : isAhead ? -2 : -1);
            EDGE.due("12 and " + sign, Edge.rule(two(), "12" + told), isDigit ? 0 : isBinding ? -4 : -3);
            EDGE.due("123 and " + sign, Edge.rule(two(), "123" + told), isBinding ? -5 : -4);
            EDGE.due("v and " + sign, Edge.rule(two(), "v" + told), isBinding ? -3 : -2);
            EDGE.due("(v and " + sign, Edge.rule(two(), "(v" + told), sign == ')' ? 0 : isBinding ? -4 : -3);
            EDGE.due("(v) and " + sign, Edge.rule(two(), "(v)" + told), isBinding ? -5 : -4);
            boolean isSum = isBinding && sign != '<' && sign != '>' && sign != '=';
            EDGE.due("1<2 and " + sign, Edge.rule(two(), "1<v" + told), isSum ? -5 : -4);
            EDGE.due("1*v and " + sign, Edge.rule(two(), "1*v" + told), isBinding ? -5 : -4);
            EDGE.due("1* and " + sign, Edge.rule(two(), "1*" + told), isDigit || isLetter ? 0 : isAhead ? -4 : -3);
        }
    }

    private static void ruleThatEndsTooEarly() {
        EDGE.says(4, "its end, if it ends too early");
        String whole = "-(v+12)*(3-(k/-h))<s";
        boolean[] ends = new boolean[whole.length() + 1];
        ends[7] = true;
        ends[18] = true;
        ends[20] = true;
        for (int n = 1; n <= whole.length(); n++) {
            EDGE.due("rule \"" + whole.substring(0, n) + "\"", Edge.rule(two(), whole.substring(0, n)), ends[n] ? 0 : -1 - n);
        }
    }

    private static void comparisons() {
        EDGE.says(0, "< > = bind least (two; 1 or 0; not one behind the other)");
        is("4<4", 0);
        is("4<5", 1);
        is("5<4", 0);
        is("4>4", 0);
        is("5>4", 1);
        is("4>5", 0);
        is("4=4", 1);
        is("4=5", 0);
        is("5=4", 0);
        is("(5<4)+3", 3);
        is("(4>5)+3", 3);
        is("(4=5)+3", 3);
        is("(4<5)+3", 4);
        is("(5>4)+3", 4);
        is("(4=4)+3", 4);
        is("-5<-4", 1);
        is("0-1<0", 1);
        is("1+1<1+2", 1);
        is("3*2>2+3", 1);
        is("2=1+1", 1);
        is("(4<5)=(5>4)", 1);
        is("7*(4<5)", 7);
        ruleFault("1<2<3", 3);
        ruleFault("1<2>3", 3);
        ruleFault("1<2=3", 3);
        ruleFault("1=2=3", 3);
        ruleFault("1>2+3*4<5", 7);
        ruleFault("(1<2>3)", 4);
        ruleFault("1<>2", 2);
        ruleFault("1<=2", 2);
        ruleFault("1==2", 2);
        is("(1<2)<(3<4)", 0);
        is("((1<2)<3)<4", 1);
    }

    private static void sums() {
        EDGE.says(0, "then + - (from the left)");
        is("9-3-2", 4);
        is("9-3+2", 8);
        is("9+3-2", 10);
        is("1-2+3", 2);
        is("1+2*3", 7);
        is("2*3+1", 7);
        is("9-2*3", 3);
        is("9-8/2", 5);
        ruleFault("+1", 0);
        ruleFault("1++2", 2);
        ruleFault("1-+2", 2);
    }

    private static void products() {
        EDGE.says(0, "then * / (from the left; by 0: 0; cut to 0)");
        is("100/7/2", 7);
        is("100/7*2", 28);
        is("7*100/2", 350);
        is("9/3*3", 9);
        is("5/0", 0);
        is("5/0+1", 1);
        is("0/0", 0);
        is("5/(2-2)+3", 3);
        is("5/0/0*3+1", 1);
        is("-5/0+2", 2);
        is("7/2", 3);
        is("-7/2+10", 7);
        is("7/-2+10", 7);
        is("-7/-2", 3);
        is("-1/2+5", 5);
        is("10-(0-7)/2", 13);
        ruleFault("*1", 0);
        ruleFault("1*/2", 2);
        ruleFault("1**2", 2);
    }

    private static void minuses() {
        EDGE.says(0, "then - ahead of a thing (any many)");
        is("-5+9", 4);
        is("--5", 5);
        is("---5+9", 4);
        is("9--5", 14);
        is("9---5", 4);
        is("-2*-3", 6);
        is("6/-2+9", 6);
        is("-(2-5)", 3);
        is("--(2)", 2);
        is("-v+50", 10);
        is("(-1<--1)*5", 5);
        is("20-2*-3", 26);
        ruleFault("-", 1);
        ruleFault("--", 2);
        ruleFault("(-)", 2);
        ruleFault("-+1", 1);
        ruleFault("-<1", 1);
    }

    private static void numbersAndBrackets() {
        EDGE.says(0, "a NUMBER of 1 to 3 digits");
        is("0", 0);
        is("00", 0);
        is("000", 0);
        is("9", 9);
        is("09", 9);
        is("009", 9);
        is("999", 999);
        is("123", 123);
        ruleFault("1234", 3);
        ruleFault("0001", 3);
        ruleFault("1+0001", 5);
        EDGE.says(0, "an EXPRESSION in ( ) (at most 4 in one another)");
        is("(8)", 8);
        is("((((8))))", 8);
        ruleFault("(((8)+(((1)))))", 8);
        is("((((8))))+((((8))))", 16);
        is("((((1<2))))", 1);
        ruleFault("(((((8)))))", 4);
        ruleFault("(((((", 4);
        ruleFault("1+((((2*(3)))))", 8);
        ruleFault("((((8))))+(((((8)))))", 14);
        ruleFault("((((8))))+((((-(8)))))", 15);
        ruleFault("()", 1);
        ruleFault("(", 1);
        ruleFault(")", 0);
        ruleFault("8)", 1);
        ruleFault("(8", 2);
        ruleFault("(8))", 3);
        ruleFault("(8)(8)", 3);
        ruleFault("8(8)", 1);
        ruleFault("(8)8", 3);
    }

    private static void letters() {
        OnlyHalves x = Edge.with("", "11;22;33;t0-1*40,3;t2-1*50,3;t0-2*60,3;t1-2*5,4;f0-1;q1-2");
        String[] quotes = {"i its number", "o who holds the other HALF", "c COIN", "v VALUE", "k KIND",
            "h how many HALVES it holds (but this one)", "f 1 if FRIENDS with who holds the other HALF",
            "q 1 if in QUARREL with that one", "s how many HALVES of THINGS of that KIND it holds (but this one)"};
        String signs = "iocvkhfqs";
        // Of half 0 to who holds it; of half 0 to a buyer; of half 2 to who holds it; of half 6 to a buyer.
        int[][] want = {{0, 2, 2, 0}, {1, 1, 1, 2}, {11, 33, 33, 11}, {40, 40, 50, 5}, {3, 3, 3, 4},
            {1, 3, 2, 2}, {1, 0, 0, 0}, {0, 1, 1, 0}, {1, 2, 1, 0}};
        for (int i = 0; i < quotes.length; i++) {
            EDGE.says(0, quotes[i]);
            Edge.rule(x, signs.substring(i, i + 1));
            EDGE.due("worth(0, 0)", x.worth(0, 0), want[i][0]);
            EDGE.due("worth(0, 2)", x.worth(0, 2), want[i][1]);
            EDGE.due("worth(2, 2)", x.worth(2, 2), want[i][2]);
            EDGE.due("worth(6, 0)", x.worth(6, 0), want[i][3]);
        }
        EDGE.says(0, "WORTH of a HALF to one, as things are held now.");
        x = Edge.with("h*100+o*10+s", "1;2;3;4;t0-1*40,3;t2-3*50,3");
        EDGE.due("worth(0, 0)", x.worth(0, 0), 10);
        x.swap(1, 2);
        EDGE.due("worth(0, 0)", x.worth(0, 0), 20);
        x.swap(0, 2);
        EDGE.due("worth(0, 1)", x.worth(0, 1), 20);
        EDGE.due("worth(2, 2)", x.worth(2, 2), 131);
        EDGE.due("worth(2, 3)", x.worth(2, 3), -2);
        EDGE.due("worth(2, 1)", x.worth(2, 1), 131);
    }

    private static void intsAndLimits() {
        EDGE.says(0, "As ints, put to 0 .. 999");
        is("0-1", 0);
        is("-999", 0);
        is("998+1", 999);
        is("999+1", 999);
        is("999*999", 999);
        // 512 times 512 times 512 times 16 is 2 to the 31st: below 0 as an int, and as it is by -1.
        is("512*512*512*16", 0);
        is("(512*512*512*16<0)+1", 2);
        is("(512*512*512*16/-1<0)+1", 2);
        is("(-(512*512*512*16)<0)+1", 2);
        is("512*512*512*32+7", 7);
        is("512*512*512*16-1>0", 1);
        is("512*512*512*16-1+1<0", 1);
        is("(999*999*999<0)*3", 999 * 999 * 999 < 0 ? 3 : 0);
        is("999*999*999*999/999/999/999", 999 * 999 * 999 * 999 / 999 / 999 / 999);
    }

    private static void ruleThatFails() {
        EDGE.says(0, "Refused calls answer NONE, or false, and change nothing but THE TEXT");
        OnlyHalves x = Edge.with("i*7+5", "10;20;30;t0-1*30,4");
        for (String told : new String[] {"(", "i*", "i*7+", "c<c<c", Edge.times("1+", 25)}) {
            Edge.text(x, told);
            EDGE.due("rule() of \"" + told + "\"", x.rule() < 0, true);
            EDGE.due("worth(0, 0)", x.worth(0, 0), 5);
            EDGE.due("worth(0, 2)", x.worth(0, 2), 19);
        }
    }

    // ---- of, thing, between, law, sheet

    private static void asksOfPeople() {
        OnlyHalves x = Edge.with("", EIGHT, "t0-7*10,1;t6-7*20,1;f0-7;q6-7;f1-0");
        EDGE.says(6, "what 0: COIN, 1: HALVES it holds (bits), 2: FRIENDS (bits), 3: in QUARREL with it (bits)");
        int[][] want = {{1, 1, 130, 0, 0}, {7, 4, 0, 128, 0}, {8, 10, 1, 64, 0}, {2, 0, 1, 0, 0}};
        int[] who = {0, 6, 7, 1};
        for (int i = 0; i < who.length; i++) {
            for (int what = 0; what < 5; what++) {
                EDGE.due("of(" + who[i] + ", " + what + ")", Edge.of(x, who[i], what), want[i][what]);
            }
        }
        EDGE.says(6, "4: 1 if it took part in a USE TODAY");
        x.use(0);
        EDGE.due("of(0, 4)", Edge.of(x, 0, 4), 1);
        EDGE.due("of(7, 4)", Edge.of(x, 7, 4), 1);
        EDGE.due("of(6, 4)", Edge.of(x, 6, 4), 0);
        x.days(1);
        EDGE.due("of(0, 4)", Edge.of(x, 0, 4), 0);
        EDGE.due("of(7, 4)", Edge.of(x, 7, 4), 0);
        EDGE.says(6, "NoSuchElementException: none such, another what.");
        for (int wrong : new int[] {-1, 8, 9, Integer.MIN_VALUE, Integer.MAX_VALUE}) {
            EDGE.stays(x, "of(" + wrong + ", 0)", Edge.THROWN, () -> Edge.of(x, wrong, 0));
            EDGE.stays(x, "of(0, " + wrong + ")", Edge.THROWN, () -> Edge.of(x, 0, wrong));
        }
        EDGE.due("of(0, 5)", Edge.of(x, 0, 5), Edge.THROWN);
        EDGE.due("of(7, 0)", Edge.of(x, 7, 0), 8 + 5 + 5);
        EDGE.due("of one that is not there yet", Edge.of(two(), 2, 0), Edge.THROWN);
        EDGE.due("of nobody", Edge.of(new OnlyHalves(), 0, 4), Edge.THROWN);
    }

    private static void asksOfThings() {
        OnlyHalves x = Edge.with("", EIGHT, FIVE_THINGS, FIVE_THINGS, "f0-1");
        EDGE.says(7, "what 0: VALUE, 1: KIND, 2: who holds its first HALF, 3: its other one, 4: 1 if it is TOGETHER");
        int[] want = {5, 4, 0, 1, 1};
        for (int what = 0; what < 5; what++) {
            EDGE.due("thing(9, " + what + ")", Edge.thing(x, 9, what), want[what]);
        }
        x.between(0, 1, 2);
        EDGE.due("thing(9, 4) in QUARREL", Edge.thing(x, 9, 4), 0);
        x.between(0, 1, 0);
        EDGE.due("thing(9, 4) of neither", Edge.thing(x, 9, 4), 0);
        EDGE.says(7, "NoSuchElementException: none such, another what.");
        for (int wrong : new int[] {-1, 10, 11, Integer.MIN_VALUE, Integer.MAX_VALUE}) {
            EDGE.stays(x, "thing(" + wrong + ", 0)", Edge.THROWN, () -> Edge.thing(x, wrong, 0));
            EDGE.stays(x, "thing(0, " + wrong + ")", Edge.THROWN, () -> Edge.thing(x, 0, wrong));
        }
        EDGE.due("thing(0, 5)", Edge.thing(x, 0, 5), Edge.THROWN);
        EDGE.due("a THING that is not there yet", Edge.thing(Edge.with("", "1;2;t0-1*1,1"), 1, 0), Edge.THROWN);
        EDGE.due("no THINGS", Edge.thing(new OnlyHalves(), 0, 0), Edge.THROWN);
    }

    private static void betweenTwo() {
        EDGE.says(8, "(is 0: neither, 1: FRIENDS, 2: in QUARREL): what they were");
        OnlyHalves x = Edge.with("", EIGHT);
        int was = 0;
        for (int is : new int[] {1, 2, 1, 0, 2, 2, 0, 0, 1, 1}) {
            EDGE.due("between(7, 0, " + is + ")", x.between(7, 0, is), was);
            EDGE.due("FRIENDS", Edge.of(x, 0, 2), is == 1 ? 128 : 0);
            EDGE.due("FRIENDS", Edge.of(x, 7, 2), is == 1 ? 1 : 0);
            EDGE.due("in QUARREL", Edge.of(x, 0, 3), is == 2 ? 128 : 0);
            EDGE.due("in QUARREL", Edge.of(x, 7, 3), is == 2 ? 1 : 0);
            was = is;
        }
        EDGE.says(8, "Refused: others.");
        EDGE.refused(x, "between(0, 0, 1)", () -> x.between(0, 0, 1));
        for (int wrong : new int[] {-1, 8, 9, Integer.MIN_VALUE, Integer.MAX_VALUE}) {
            EDGE.refused(x, "between(0, " + wrong + ", 1)", () -> x.between(0, wrong, 1));
            EDGE.refused(x, "between(" + wrong + ", 0, 2)", () -> x.between(wrong, 0, 2));
            EDGE.refused(x, "between(0, 7, " + wrong + ")", () -> x.between(0, 7, wrong));
        }
        EDGE.refused(x, "between(0, 7, 3)", () -> x.between(0, 7, 3));
        OnlyHalves few = two();
        EDGE.refused(few, "between(0, 2, 0)", () -> few.between(0, 2, 0));
    }

    private static void laws() {
        EDGE.says(9, "THE LAW: what becomes v: what it was.");
        OnlyHalves x = two();
        int sort = 0;
        for (int v : new int[] {0, 1, 2, 1, 0, 2}) {
            EDGE.due("law(0, " + v + ")", x.law(0, v), sort);
            sort = v;
        }
        int fee = 0;
        for (int v : new int[] {0, 99, 1, 98, 50}) {
            EDGE.due("law(1, " + v + ")", x.law(1, v), fee);
            fee = v;
        }
        EDGE.says(9, "Refused: others.");
        for (int wrong : new int[] {-1, 3, 99, Integer.MIN_VALUE, Integer.MAX_VALUE}) {
            EDGE.refused(x, "law(0, " + wrong + ")", () -> x.law(0, wrong));
        }
        for (int wrong : new int[] {-1, 100, Integer.MIN_VALUE, Integer.MAX_VALUE}) {
            EDGE.refused(x, "law(1, " + wrong + ")", () -> x.law(1, wrong));
        }
        for (int wrong : new int[] {-1, 2, 3, Integer.MIN_VALUE, Integer.MAX_VALUE}) {
            EDGE.refused(x, "law(" + wrong + ", 1)", () -> x.law(wrong, 1));
        }
    }

    private static OnlyHalves three() {
        return Edge.with("", "5;6;7;t0-1*10,1;t2-0*21,2;t0-1*30,1");
    }

    private static void sheet(int kind, int n, int f, int step, int... want) {
        OnlyHalves x = three();
        EDGE.due("sheet(" + kind + ", " + n + ", " + f + ", " + step + ")", x.sheet(kind, n, f, step), want[0] + want[1] + want[2]);
        for (int thing = 0; thing < 3; thing++) {
            EDGE.due("VALUE", Edge.thing(x, thing, 0), want[thing]);
        }
    }

    private static void sheetOfEachKind() {
        EDGE.says(10, "of bytes, shorts the lowest bits, with their sign; put to 1 .. 99");
        sheet(0, 3, 98, 1, 98, 99, 99);
        sheet(0, 3, -1, 1, 1, 1, 1);
        sheet(0, 3, 126, 1, 99, 99, 1);
        sheet(0, 3, 255, 1, 1, 1, 1);
        sheet(0, 3, 256 + 40, 256 + 1, 40, 41, 42);
        sheet(0, 3, -256 + 40, -256, 40, 40, 40);
        sheet(1, 3, 126, 1, 99, 99, 99);
        sheet(1, 3, 32766, 1, 99, 99, 1);
        sheet(1, 3, 65535, 1, 1, 1, 1);
        sheet(1, 3, 65536 + 40, -65536 + 1, 40, 41, 42);
        sheet(1, 3, 256 + 40, 0, 99, 99, 99);
        sheet(2, 3, 32767, 1, 99, 99, 99);
        sheet(2, 3, 65536 + 40, 0, 99, 99, 99);
        sheet(2, 3, 2, -1, 2, 1, 1);
        EDGE.says(10, "of n entries f, f + step, ..");
        sheet(2, 3, Integer.MAX_VALUE - 1, 1, 99, 99, 1);
        sheet(2, 3, Integer.MIN_VALUE, Integer.MIN_VALUE, 1, 1, 1);
        sheet(2, 3, Integer.MIN_VALUE + 5, Integer.MIN_VALUE, 1, 5, 1);
        sheet(2, 3, 7, 11, 7, 18, 29);
        EDGE.says(10, "those behind it have 1");
        sheet(2, 0, 50, 1, 1, 1, 1);
        sheet(2, 1, 50, 1, 50, 1, 1);
        sheet(0, 2, 50, 1, 50, 51, 1);
        EDGE.says(10, "the sum of all that there are (entries beyond them are left aside)");
        sheet(2, 4, 50, 1, 50, 51, 52);
        sheet(1, 10, 50, 1, 50, 51, 52);
        EDGE.due("of no THINGS", new OnlyHalves().sheet(2, 10, 50, 1), 0);
        OnlyHalves ten = Edge.with("", EIGHT, FIVE_THINGS, FIVE_THINGS);
        EDGE.due("of ten THINGS", ten.sheet(2, 10, 11, 1), 155);
        EDGE.due("VALUE", Edge.thing(ten, 9, 0), 20);
        EDGE.due("of ten THINGS", ten.sheet(2, 9, 11, 1), 135 + 1);
        OnlyHalves x = two();
        x.sheet(2, 10, 50, 0);
        Edge.market(x, "t0-1*7,1");
        EDGE.due("VALUE of one that came later", Edge.thing(x, 0, 0), 7);
    }

    private static void sheetWithoutSense() {
        EDGE.says(10, "-2: n below 0 (of kinds 0 .. 2; nothing changes)");
        OnlyHalves x = three();
        for (int kind = 0; kind < 3; kind++) {
            int k = kind;
            EDGE.stays(x, "sheet(" + kind + ", -1, 9, 1)", -2, () -> x.sheet(k, -1, 9, 1));
            EDGE.stays(x, "sheet(" + kind + ", min, 9, 1)", -2, () -> x.sheet(k, Integer.MIN_VALUE, 9, 1));
        }
        EDGE.says(10, "NONE: another kind, n above 10 (these first)");
        for (int n : new int[] {11, 12, Integer.MAX_VALUE}) {
            for (int kind = 0; kind < 4; kind++) {
                int k = kind;
                EDGE.refused(x, "sheet(" + kind + ", " + n + ", 9, 1)", () -> x.sheet(k, n, 9, 1));
            }
        }
        for (int kind : new int[] {-1, 4, Integer.MIN_VALUE, Integer.MAX_VALUE}) {
            for (int n : new int[] {-1, 0, 3, 11}) {
                EDGE.refused(x, "sheet(" + kind + ", " + n + ", 9, 1)", () -> x.sheet(kind, n, 9, 1));
            }
        }
        EDGE.says(10, "-3: missing (all 1)");
        for (int n : new int[] {Integer.MIN_VALUE, -1, 0, 1, 10}) {
            OnlyHalves y = three();
            EDGE.due("sheet(3, " + n + ", 9, 1)", y.sheet(3, n, 9, 1), -3);
            for (int thing = 0; thing < 3; thing++) {
                EDGE.due("VALUE", Edge.thing(y, thing, 0), 1);
            }
        }
        EDGE.due("of no THINGS", new OnlyHalves().sheet(3, 0, 0, 0), -3);
    }
}
