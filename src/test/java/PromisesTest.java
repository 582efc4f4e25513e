import java.util.NoSuchElementException;

/** For each promise of the document: ordinary inputs, the edges that it names, and wrong inputs. */
public final class PromisesTest {
    private static final int THROWN = -999999;
    private static int promise;
    private static int made;
    private static int wrong;

    public static void main(String[] args) {
        newObject();
        signAndEnd();
        marketLines();
        marketFaults();
        marketLimits();
        marketIsWhole();
        ruleValues();
        ruleFaults();
        ofAndThing();
        betweenAndLaw();
        sheets();
        worths();
        salesByLaw();
        undoing();
        undoForgets();
        judging();
        openSales();
        runs();
        draws();
        partners();
        dayPlans();
        pairsAndWealth();
        usesAndDays();
        feasts();
        preparing();
        swapping();
        goodSwaps();
        friendships();
        countedStates();
        estates();
        estateTies();
        greedyEstate();
        bookOfUses();
        calves();
        keeping();
        countsAndRow();
        refusalsChangeNothing();
        System.out.println(made + " answers looked at, " + wrong + " wrong");
        if (wrong != 0) {
            System.exit(1);
        }
    }

    private static void due(String what, long got, long want) {
        made++;
        if (got != want) {
            wrong++;
            System.out.println("promise " + promise + ": " + what + " answered " + got + ", due is " + want);
        }
    }

    private static void due(String what, boolean got, boolean want) {
        due(what, got ? 1 : 0, want ? 1 : 0);
    }

    private static void dueRow(OnlyHalves x, long... want) {
        due("count(6)", x.count(6), want.length);
        for (int i = 0; i < want.length; i++) {
            due("row(" + i + ")", row(x, i), want[i]);
        }
        due("row(" + want.length + ")", row(x, want.length), THROWN);
    }

    private static int row(OnlyHalves x, int i) {
        try {
            return x.row(i);
        } catch (NoSuchElementException e) {
            return THROWN;
        }
    }

    private static int of(OnlyHalves x, int person, int what) {
        try {
            return x.of(person, what);
        } catch (NoSuchElementException e) {
            return THROWN;
        }
    }

    private static int thing(OnlyHalves x, int thing, int what) {
        try {
            return x.thing(thing, what);
        } catch (NoSuchElementException e) {
            return THROWN;
        }
    }

    private static void text(OnlyHalves x, String told) {
        for (int i = 0; i < told.length(); i += 4) {
            int v = 0;
            for (int j = i; j < i + 4; j++) {
                v = v << 8 | (j < told.length() ? told.charAt(j) : 0);
            }
            x.sign(v);
        }
        x.end(told.length());
    }

    private static int market(OnlyHalves x, String told) {
        text(x, told);
        return x.market();
    }

    private static int rule(OnlyHalves x, String told) {
        text(x, told);
        return x.rule();
    }

    private static OnlyHalves with(String told, String rule) {
        OnlyHalves x = new OnlyHalves();
        market(x, told);
        rule(x, rule);
        return x;
    }

    private static String times(String part, int n) {
        StringBuilder whole = new StringBuilder();
        for (int i = 0; i < n; i++) {
            whole.append(part);
        }
        return whole.toString();
    }

    private static void newObject() {
        promise = 1;
        OnlyHalves x = new OnlyHalves();
        for (int what = 0; what < 8; what++) {
            due("count(" + what + ")", x.count(what), 0);
        }
        due("today()", x.today(), 0);
        due("seed(3)", x.seed(3), 1);
        due("law(0, 0)", x.law(0, 0), 0);
        due("law(1, 0)", x.law(1, 0), 0);
        due("of(0, 0)", of(x, 0, 0), THROWN);
        due("again(0)", x.again(0), false);
        due("undo()", x.undo(), -1);
        due("estate(0)", x.estate(0), -1);
        due("states()", x.states(), 1);
        dueRow(x, 1, 0);
        due("open()", x.open(), 0);
        dueRow(x);
        due("days(3)", x.days(3), 0);
        due("today()", x.today(), 3);
        due("NONE", OnlyHalves.NONE, -1);
    }

    private static void signAndEnd() {
        promise = 2;
        OnlyHalves x = new OnlyHalves();
        due("sign", x.sign('1' << 24 | '2' << 16 | '3' << 8 | ';'), 4);
        due("sign", x.sign('4' << 24), 8);
        due("end(5)", x.end(5), true);
        due("market()", x.market(), 2);
        due("of(0, 0)", of(x, 0, 0), 123);
        due("of(1, 0)", of(x, 1, 0), 4);
        for (int i = 1; i <= 20; i++) {
            due("sign(0)", x.sign(0), 4 * i);
        }
        due("sign(0)", x.sign(0), -1);
        due("count(7)", x.count(7), 80);
        promise = 3;
        due("end(81)", x.end(81), false);
        due("end(-1)", x.end(-1), false);
        due("count(7)", x.count(7), 80);
        due("end(80)", x.end(80), true);
        due("end(77)", x.end(77), true);
        due("count(7)", x.count(7), 77);
        due("end(78)", x.end(78), false);
        promise = 2;
        due("sign(0)", x.sign(0), -1);
        due("end(76)", x.end(76), true);
        due("sign(-1)", x.sign(-1), 80);
        promise = 3;
        due("end(0)", x.end(0), true);
        due("count(7)", x.count(7), 0);
        due("end(1)", x.end(1), false);
    }

    private static void marketLines() {
        promise = 4;
        OnlyHalves x = new OnlyHalves();
        due("market", market(x, "0;007;999;t0-1*09,0;t2-0*99,9;f0-1;q2-1"), 7);
        due("count(7)", x.count(7), 0);
        due("coin", of(x, 1, 0), 7);
        due("coin", of(x, 2, 0), 999);
        due("value", thing(x, 0, 0), 9);
        due("kind", thing(x, 1, 1), 9);
        due("holder", thing(x, 1, 2), 2);
        due("holder", thing(x, 1, 3), 0);
        due("friends", of(x, 0, 2), 2);
        due("quarrel", of(x, 1, 3), 4);
        due("quarrel", of(x, 2, 3), 2);
        due("market", market(x, "q1-0;f1-2"), 2);
        due("no friends", of(x, 0, 2), 0);
        due("quarrel", of(x, 0, 3), 2);
        due("friends", of(x, 2, 2), 2);
        due("no quarrel", of(x, 2, 3), 0);
        due("market", market(x, "5;t3-0*1,0"), 2);
        due("holder", thing(x, 2, 2), 3);
        due("count(0)", x.count(0), 4);
        due("empty", x.market(), 0);
        due("f0-3;q0-3", market(x, "f0-3;q0-3"), 2);
        due("the later line", x.between(0, 3, 0), 2);
    }

    private static void fault(String before, String told, int at) {
        OnlyHalves x = new OnlyHalves();
        market(x, before);
        int people = x.count(0);
        due("market \"" + told + "\" behind \"" + before + "\"", market(x, told), -1 - at);
        due("people", x.count(0), people);
        due("text", x.count(7), 0);
    }

    private static void marketFaults() {
        promise = 4;
        String two = "1;2";
        fault("", ";", 0);
        fault("", "1;", 2);
        fault("", "1;;2", 2);
        fault("", "1234", 3);
        fault("", "1 ", 1);
        fault("", "1,", 1);
        fault("", "t0-1*1,1", 1);
        fault("1", "t0-1*1,1", 3);
        fault("1", "2;t0-2*1,1", 5);
        fault(two, "t", 1);
        fault(two, "t0", 2);
        fault(two, "t0-", 3);
        fault(two, "t0-1", 4);
        fault(two, "t0-1*", 5);
        fault(two, "t0-1*1", 6);
        fault(two, "t0-1*1,", 7);
        fault(two, "t0-1*1,1;", 9);
        fault(two, "t0-1*1,12", 8);
        fault(two, "t0-1*123,1", 7);
        fault(two, "t0-1*12,x", 8);
        fault(two, "t0-1*,1", 5);
        fault(two, "t0+1*1,1", 2);
        fault(two, "t0-0*1,1", 3);
        fault(two, "tx-0*1,1", 1);
        fault(two, "t0-x*1,1", 3);
        fault(two, "t0-1*0,1", 5);
        fault(two, "t0-1*00,1", 6);
        fault(two, "t0-1*0", 5);
        fault(two, "t0-1*00", 6);
        fault(two, "t0-1*000,1", 6);
        fault(two, "t0-1*0x", 5);
        fault(two, "f0-2", 3);
        fault(two, "f2-0", 1);
        fault(two, "q1-1", 3);
        fault(two, "q1-", 3);
        fault(two, "q1*0", 2);
        fault(two, "f0-1f", 4);
        fault(two, "F0-1", 0);
        fault(two, "f0-1;x", 5);
        fault(two, (char) 233 + "", 0);
        fault(two, "-1", 0);
    }

    private static void marketLimits() {
        promise = 4;
        String six = "1;1;1;1;1;1";
        fault(six, "2;2;2", 4);
        fault(six, "2;2;f0-7;2222", 9);
        OnlyHalves x = new OnlyHalves();
        market(x, six);
        due("eight", market(x, "2;2"), 2);
        due("ninth", market(x, "2"), -1);
        String five = "t0-1*1,0;t0-1*1,0;t0-1*1,0;t0-1*1,0;t0-1*1,0";
        due("five", market(x, five), 5);
        due("eleven", market(x, five + ";t0-1*1,0"), -46);
        due("eleven", market(x, five + ";t9"), -46);
        due("ten", market(x, five), 5);
        due("eleventh", market(x, "f0-1;t0-1*1,0"), -6);
        String many = times("f0-1;", 14);
        due("74 signs", market(x, many + "q0-1"), 15);
        due("76 signs, too early an end", market(x, many + "q0-1;q"), -77);
        due("76 signs and an end", market(x, many + "q0-1;x"), -76);
        due("77 signs, the first 76 could go on", market(x, many + "q0-1;q0"), -77);
        due("80 signs, a fault in the first 76", market(x, many + "q0-0;q0-1;"), -74);
        due("80 signs, behind the first 76", market(x, many + "q0-1;qxxxx"), -77);
        due("a fault ahead", market(x, "x" + times(" ", 79)), -1);
        x = new OnlyHalves();
        due("people", market(x, "1;2;3"), 3);
        due("76 signs", market(x, times("f0-1;", 13) + "f0-1;t0-2*5"), -77);
        due("76 signs", market(x, times("f0-1;", 12) + "f0-1;f0-1;1;22"), 16);
        due("82nd can not be told", x.count(0), 5);
        String head = times("f0-1;", 12) + "123;";
        due("first 76 could end", market(x, head + "t0-2*50,1;11"), 15);
        due("a value of 0 in the first 76", market(x, times("f0-1;", 14) + "t0-1*0"), -76);
        due("and not behind them", market(x, times("f0-1;", 14) + "t0-1*05,1"), -76);
        due("a value that is not 0", market(x, times("f0-1;", 14) + "t0-1*50,1"), -77);
        due("77 of 77", market(x, times("f0-1;", 14) + "f0-1;23"), -77);
        due("the first 76 could end", market(x, times("f0-1;", 14) + "f0-1;2;"), -77);
    }

    private static void marketIsWhole() {
        promise = 4;
        OnlyHalves x = new OnlyHalves();
        market(x, "10;20;30;t0-1*10,1");
        due("fault", market(x, "5;t0-2*5,5;f0-1;q0-0"), -20);
        due("people", x.count(0), 3);
        due("things", x.count(1), 1);
        due("friends", of(x, 0, 2), 0);
    }

    private static int ruled(String told) {
        OnlyHalves x = new OnlyHalves();
        market(x, "11;22;33;t0-1*40,3;t2-1*50,3;t0-2*60,3;t1-2*5,4;f0-1;q1-2");
        due("rule \"" + told + "\"", rule(x, told), 0);
        return x.worth(0, 0);
    }

    private static void ruleValues() {
        promise = 5;
        due("none", ruled(""), 40);
        due("7", ruled("7"), 7);
        due("007", ruled("007"), 7);
        due("i", ruled("i+5"), 5);
        due("o", ruled("o"), 1);
        due("c", ruled("c"), 11);
        due("v", ruled("v"), 40);
        due("k", ruled("k"), 3);
        due("h", ruled("h"), 1);
        due("f", ruled("f"), 1);
        due("q", ruled("q"), 0);
        due("s", ruled("s"), 1);
        due("from the left", ruled("9-3-2"), 4);
        due("from the left", ruled("100/7/2"), 7);
        due("from the left", ruled("100/7*2"), 28);
        due("binds more", ruled("2+3*4"), 14);
        due("brackets", ruled("(2+3)*4"), 20);
        due("by 0", ruled("5/0+1"), 1);
        due("cut to 0", ruled("-7/2+10"), 7);
        due("cut to 0", ruled("10+7/-2"), 7);
        due("below 0", ruled("1-5"), 0);
        due("above 999", ruled("999+1"), 999);
        due("at most", ruled("998+1"), 999);
        due("least", ruled("1+1<3"), 1);
        due("least", ruled("3>1+1"), 1);
        due("equal", ruled("2*2=5-1"), 1);
        due("not equal", ruled("4=5"), 0);
        due("not less", ruled("4<4"), 0);
        due("in brackets", ruled("(1<2)<(3<2)"), 0);
        due("in brackets", ruled("(1<2)+(3>2)*5"), 6);
        due("minus", ruled("--5"), 5);
        due("minus", ruled("9---5"), 4);
        due("minus", ruled("-2*-3"), 6);
        due("minus", ruled("-(2-5)"), 3);
        due("minus of a product", ruled("20-2*-3"), 26);
        due("four deep", ruled("((((8))))"), 8);
        due("side by side", ruled("((((8))))+((((8))))"), 16);
        due("as ints", ruled("999*999*999*999*999<0"), 999 * 999 * 999 * 999 * 999 < 0 ? 1 : 0);
        due("as ints", ruled("900*900*900*3"), 0);
        due("as ints", ruled("-(900*900*900*9/900/900/9)"), -(900 * 900 * 900 * 9 / 900 / 900 / 9));
        due("the least int by -1", ruled("(512*512*512*16/-1<0)+1"), 2);
        due("forty signs", ruled("1" + times("+1", 19) + "0"), 29);
        OnlyHalves x = new OnlyHalves();
        market(x, "11;22;33;t0-1*40,3;t2-1*50,3;t0-2*60,3;t1-2*5,4;f0-1;q1-2");
        rule(x, "q*100+i*10+s");
        due("q of a seller", x.worth(2, 2), 121);
        due("of a buyer", x.worth(2, 0), 2);
        rule(x, "h");
        due("h of a seller", x.worth(2, 2), 2);
        due("h of a buyer", x.worth(0, 2), 3);
        rule(x, "c");
        due("c of a buyer", x.worth(0, 2), 33);
        due("an empty one", x.rule(), 0);
        due("value again", x.worth(0, 2), 40);
    }

    private static void ruleFault(String told, int at) {
        OnlyHalves x = with("10;20;t0-1*10,1", "c+1");
        due("rule \"" + told + "\"", rule(x, told), -1 - at);
        due("the rule stays", x.worth(0, 0), 11);
        due("text", x.count(7), 0);
    }

    private static void ruleFaults() {
        promise = 5;
        ruleFault("x", 0);
        ruleFault("+1", 0);
        ruleFault("*1", 0);
        ruleFault(")", 0);
        ruleFault("1+", 2);
        ruleFault("-", 1);
        ruleFault("1<", 2);
        ruleFault("1<2<3", 3);
        ruleFault("1<2=3", 3);
        ruleFault("1<2+3>4", 5);
        ruleFault("(1<2<3)", 4);
        ruleFault("1234", 3);
        ruleFault("1i", 1);
        ruleFault("i1", 1);
        ruleFault("ic", 1);
        ruleFault("i(", 1);
        ruleFault("2(3)", 1);
        ruleFault("(3)2", 3);
        ruleFault("()", 1);
        ruleFault("(1", 2);
        ruleFault("(1+", 3);
        ruleFault("1)", 1);
        ruleFault("(1))", 3);
        ruleFault("(((((1)))))", 4);
        ruleFault("1+(2*((3+(4-(5)))))", 12);
        ruleFault("1+*2", 2);
        ruleFault("1*/2", 2);
        ruleFault("1 ", 1);
        ruleFault("V", 0);
        ruleFault((char) 0 + "", 0);
        ruleFault((char) 255 + "", 0);
        ruleFault("1" + times("+1", 20), 40);
        ruleFault("1" + times("+1", 19) + "+", 40);
        ruleFault("1" + times("+1", 19) + "+x", 40);
        ruleFault("1" + times("+1", 18) + "+x+++", 38);
        ruleFault("(" + times("1+", 20), 40);
        ruleFault(times("-", 41), 40);
        ruleFault(times("-", 40), 40);
    }

    private static void ofAndThing() {
        promise = 6;
        OnlyHalves x = with("5;6;7;t0-1*10,1;t2-0*21,2;f0-1;q0-2", "");
        int[][] people = {{5, 9, 2, 4, 0}, {6, 2, 1, 0, 0}, {7, 4, 0, 1, 0}};
        for (int person = 0; person < 3; person++) {
            for (int what = 0; what < 5; what++) {
                due("of(" + person + ", " + what + ")", of(x, person, what), people[person][what]);
            }
            due("what 5", of(x, person, 5), THROWN);
            due("what -1", of(x, person, -1), THROWN);
        }
        due("of(3, 0)", of(x, 3, 0), THROWN);
        due("of(-1, 0)", of(x, -1, 0), THROWN);
        x.use(0);
        due("took part", of(x, 0, 4), 1);
        due("took part", of(x, 1, 4), 1);
        due("took none", of(x, 2, 4), 0);
        promise = 7;
        int[][] things = {{10, 1, 0, 1, 1}, {21, 2, 2, 0, 0}};
        for (int thing = 0; thing < 2; thing++) {
            for (int what = 0; what < 5; what++) {
                due("thing(" + thing + ", " + what + ")", thing(x, thing, what), things[thing][what]);
            }
            due("what 5", thing(x, thing, 5), THROWN);
            due("what -1", thing(x, thing, -1), THROWN);
        }
        due("thing(2, 0)", thing(x, 2, 0), THROWN);
        due("thing(-1, 0)", thing(x, -1, 0), THROWN);
    }

    private static void betweenAndLaw() {
        promise = 8;
        OnlyHalves x = with("5;6;7", "");
        due("between", x.between(0, 1, 1), 0);
        due("between", x.between(1, 0, 2), 1);
        due("friends no more", of(x, 0, 2), 0);
        due("quarrel", of(x, 1, 3), 1);
        due("between", x.between(0, 1, 0), 2);
        due("neither", of(x, 1, 3), 0);
        due("others stay", x.between(0, 2, 1), 0);
        due("one", x.between(1, 1, 1), -1);
        due("none such", x.between(0, 3, 1), -1);
        due("none such", x.between(-1, 1, 1), -1);
        due("is 3", x.between(0, 2, 3), -1);
        due("is -1", x.between(0, 2, -1), -1);
        due("unchanged", x.between(2, 0, 1), 1);
        promise = 9;
        due("law", x.law(0, 2), 0);
        due("law", x.law(0, 1), 2);
        due("law", x.law(0, 3), -1);
        due("law", x.law(0, -1), -1);
        due("law", x.law(0, 0), 1);
        due("law", x.law(1, 99), 0);
        due("law", x.law(1, 100), -1);
        due("law", x.law(1, -1), -1);
        due("law", x.law(1, 0), 99);
        due("law", x.law(2, 0), -1);
        due("law", x.law(-1, 0), -1);
    }

    private static void values(OnlyHalves x, int... want) {
        for (int i = 0; i < want.length; i++) {
            due("value of " + i, thing(x, i, 0), want[i]);
        }
    }

    private static void sheets() {
        promise = 10;
        OnlyHalves x = with("5;6;7;t0-1*10,1;t2-0*21,2;t0-1*30,1", "");
        due("bytes", x.sheet(0, 3, 127, 1), 99 + 1 + 1);
        values(x, 99, 1, 1);
        due("bytes", x.sheet(0, 3, 256 + 7, 512 + 3), 7 + 10 + 13);
        due("shorts", x.sheet(1, 3, 65536 + 7, -65536 + 3), 7 + 10 + 13);
        due("shorts", x.sheet(1, 2, 32767, 1), 99 + 1 + 1);
        due("ints", x.sheet(2, 3, 65536 + 7, 3), 297);
        due("ints", x.sheet(2, 3, Integer.MAX_VALUE, 1), 99 + 1 + 1);
        due("fewer", x.sheet(2, 1, 50, 1), 52);
        values(x, 50, 1, 1);
        due("none", x.sheet(0, 0, 50, 1), 3);
        due("more", x.sheet(2, 10, 5, 1), 5 + 6 + 7);
        due("n above 10", x.sheet(2, 11, 9, 1), -1);
        due("n below 0", x.sheet(2, -1, 9, 1), -2);
        due("n below 0", x.sheet(0, -7, 9, 1), -2);
        due("another kind", x.sheet(4, 1, 9, 1), -1);
        due("another kind", x.sheet(-1, -1, 9, 1), -1);
        due("missing, n above 10", x.sheet(3, 11, 9, 1), -1);
        values(x, 5, 6, 7);
        due("missing", x.sheet(3, -1, 9, 1), -3);
        values(x, 1, 1, 1);
        x.sheet(2, 3, 9, 0);
        due("missing", x.sheet(3, 10, 9, 1), -3);
        values(x, 1, 1, 1);
        due("no things", new OnlyHalves().sheet(0, 2, 9, 9), 0);
    }

    private static void worths() {
        promise = 11;
        OnlyHalves x = with("50;60;70;t0-1*10,1;t2-0*21,1", "c+v*o+h");
        due("seller", x.worth(0, 0), 50 + 10 * 1 + 1);
        due("buyer", x.worth(0, 2), 70 + 10 * 1 + 1);
        due("seller", x.worth(3, 0), 50 + 21 * 2 + 1);
        due("buyer", x.worth(3, 1), 60 + 21 * 2 + 1);
        due("the other half", x.worth(0, 1), -2);
        due("the other half", x.worth(3, 2), -2);
        due("none such", x.worth(4, 0), -1);
        due("none such", x.worth(-1, 0), -1);
        due("none such", x.worth(0, 3), -1);
        due("none such", x.worth(0, -1), -1);
    }

    private static void salesByLaw() {
        promise = 12;
        // Worth is 10 to person 0, 21 to 1, 32 to 2, 43 to 3.
        OnlyHalves x = with("20;20;20;20;t0-1*10,1", "10+i*11");
        due("can", x.can(0, 2), 1);
        dueRow(x, 10, 32, 10);
        x.law(0, 1);
        due("can not", x.can(0, 2), 0);
        dueRow(x, 10, 32, 21);
        x.law(0, 2);
        due("can not", x.can(0, 2), 0);
        dueRow(x, 10, 32, 32);
        x.law(0, 0);
        x.law(1, 10);
        due("price and fee", x.can(0, 2), 1);
        dueRow(x, 10, 32, 10);
        x.law(1, 11);
        due("price and fee", x.can(0, 2), 0);
        due("holds it", x.can(0, 0), -2);
        due("holds the other", x.can(0, 1), -2);
        dueRow(x, 10, 32, 10);
        due("none such", x.can(2, 2), -1);
        due("none such", x.can(-1, 2), -1);
        due("none such", x.can(0, 4), -1);
        due("none such", x.can(0, -1), -1);
        rule(x, "10");
        due("not above", x.can(0, 2), 0);
        promise = 13;
        x = with("20;20;30;40;t0-1*10,1", "10+i*11");
        x.law(0, 1);
        x.law(1, 9);
        due("sell", x.sell(0, 2), 21);
        due("seller", of(x, 0, 0), 41);
        due("buyer", of(x, 2, 0), 0);
        due("holder", thing(x, 0, 2), 2);
        due("other", thing(x, 0, 3), 1);
        due("too dear by the fee", x.sell(1, 3), -3);
        due("coin", of(x, 3, 0), 40);
        x.law(1, 8);
        due("sell", x.sell(1, 3), 32);
        due("coin", of(x, 3, 0), 0);
        dueRow(x);
    }

    private static void undoing() {
        promise = 13;
        OnlyHalves x = with("995;20;30;t0-1*10,1", "10+i*11");
        due("can not be", x.sell(1, 0), -2);
        due("can not be", x.sell(1, 2), 21);
        due("not above", x.sell(0, 1), 10);
        due("coin above 999", of(x, 0, 0), 999);
        due("none such", x.sell(2, 0), -1);
        due("none such", x.sell(0, 3), -1);
        due("below", x.sell(0, 0), -3);
        due("holds", x.sell(1, 1), -2);
        promise = 14;
        due("count(3)", x.count(3), 2);
        due("undo", x.undo(), 1);
        due("coin", of(x, 0, 0), 995);
        due("coin", of(x, 1, 0), 41);
        due("holder", thing(x, 0, 2), 0);
        due("undo", x.undo(), 0);
        due("coin", of(x, 1, 0), 20);
        due("coin", of(x, 2, 0), 30);
        due("holder", thing(x, 0, 3), 1);
        due("none", x.undo(), -1);
        x = with("1;2;3;4;t0-1*10,1;t2-3*10,1", "");
        for (int i = 0; i < 35; i++) {
            x.swap(0, 2);
        }
        due("count(3)", x.count(3), 30);
        for (int i = 29; i >= 0; i--) {
            due("undo", x.undo(), i);
        }
        due("no more", x.undo(), -1);
        due("five are left", thing(x, 0, 2), 2);
        x.swap(0, 2);
        due("once more", x.undo(), 0);
        due("five are left", thing(x, 0, 2), 2);
    }

    private static void undoForgets() {
        promise = 14;
        OnlyHalves x = with("1;2;3;4;t0-1*10,1;t2-3*10,1;t0-1*2,2", "");
        x.swap(0, 2);
        x.market();
        market(x, "x");
        x.use(-1);
        x.days(101);
        x.bear(9);
        x.again(0);
        x.keep(0);
        x.sheet(2, 1, 1, 1);
        x.between(0, 1, 2);
        x.law(0, 1);
        rule(x, "v");
        x.use(2);
        due("count(3)", x.count(3), 1);
        x.between(0, 1, 0);
        due("use", x.use(2), 1);
        due("count(3)", x.count(3), 0);
        x.swap(0, 2);
        due("use again", x.use(2), -3);
        due("count(3)", x.count(3), 1);
        x.days(0);
        due("days(0)", x.count(3), 0);
        x.swap(0, 2);
        x.again(0);
        due("again(0)", x.count(3), 0);
        x.swap(0, 2);
        x.bear(0);
        due("bear(0)", x.count(3), 0);
        x.swap(0, 2);
        market(x, "f0-1");
        due("market()", x.count(3), 0);
    }

    private static void judging() {
        promise = 15;
        // Worth: 0 to person 0, 10 to 1, 20 to 2, 30 to 3.
        OnlyHalves x = with("50;50;50;50;t0-1*10,1;t1-0*10,1", "i*10");
        due("none told", x.judge(0, 777), -2);
        dueRow(x, 0);
        due("two", x.judge(2, 2 | 13 << 10), -2);
        dueRow(x, 10);
        due("the second needs the first", x.judge(2, 2 | 3 << 10), -2);
        dueRow(x, 20);
        due("three", x.judge(3, 2 | 3 << 10 | 23 << 20), -2);
        dueRow(x, 30);
        due("the third can't", x.judge(3, 2 | 3 << 10 | 2 << 20), 2);
        dueRow(x, 20);
        due("the first can't", x.judge(3, 1 | 3 << 10 | 2 << 20), 0);
        dueRow(x, 0);
        due("one looked at", x.judge(1, 2 | 1 << 10), -2);
        due("none such", x.judge(1, 5), 0);
        due("none such", x.judge(1, 42), 0);
        due("none such", x.judge(1, 1023), 0);
        due("no higher bits", x.judge(3, 2 | 3 << 10 | 23 << 20 | 3 << 30), -2);
        due("n 4", x.judge(4, 2), -1);
        due("n -1", x.judge(-1, 2), -1);
        dueRow(x, 30);
        due("nothing changes", of(x, 0, 0), 50);
        due("nothing changes", thing(x, 0, 2), 0);
        due("nothing changes", x.count(3), 0);
    }

    private static void openSales() {
        promise = 16;
        OnlyHalves x = with("50;50;50;50;t0-1*10,1;t1-0*10,1", "i*10");
        due("open", x.open(), 8);
        dueRow(x, 3, 30);
        rule(x, "(i>1)*10");
        due("open", x.open(), 8);
        dueRow(x, 2, 10);
        rule(x, "");
        due("open", x.open(), 0);
        dueRow(x);
    }

    private static void runs() {
        promise = 17;
        OnlyHalves x = with("50;50;50;50;t0-1*10,1;t1-0*10,1", "i*10");
        due("run", x.run(0, 1), 1);
        dueRow(x, 0, 0);
        due("the best", thing(x, 0, 2), 3);
        x.undo();
        due("run", x.run(1, 1), 1);
        due("the least", thing(x, 0, 2), 2);
        x.undo();
        due("none", x.run(0, 0), 0);
        dueRow(x, 0, 0);
        due("all", x.run(0, 100), 4);
        dueRow(x, 1, 20);
        due("holder", thing(x, 0, 2), 3);
        due("holder", thing(x, 0, 3), 2);
        due("kept", x.count(3), 4);
        due("rests", x.run(2, 100), 0);
        dueRow(x, 1, 0);
        due("sort 3", x.run(3, 1), -1);
        due("sort -1", x.run(-1, 1), -1);
        due("n 101", x.run(0, 101), -1);
        due("n -1", x.run(0, -1), -1);
        dueRow(x, 1, 0);
        x = with("50;50;50;50;t0-1*10,1;t1-0*10,1", "i*10");
        // 2, 3, 12, 22, 23, 31, 32.
        due("the least ones", x.run(1, 100), 7);
        dueRow(x, 1, 0 + 20 + 10 + 10 + 20 + 0 + 10);
    }

    private static void draws() {
        promise = 17;
        OnlyHalves x = with("50;50;50;50;t0-1*10,1;t1-0*10,1", "i*10");
        int[] sales = {2, 3, 12, 13, 22, 23, 32, 33};
        int r = 1103515245 + 12345;
        int sale = sales[(int) ((r & 0xffffffffL) / 65536 % 8)];
        due("drawn", x.run(2, 1), 1);
        due("holder", thing(x, sale / 20, 2 + sale / 10 % 2), sale % 10);
        due("the next number", x.seed(-5), r);
        x.undo();
        r = -5 * 1103515245 + 12345;
        sale = sales[(int) ((r & 0xffffffffL) / 65536 % 8)];
        due("drawn", x.run(2, 1), 1);
        due("holder", thing(x, sale / 20, 2 + sale / 10 % 2), sale % 10);
        due("the next number", x.seed(1), r);
        x.run(2, 100);
        int rested = x.seed(9);
        x.run(2, 100);
        due("nothing to draw", x.seed(rested), 9);
    }

    private static void partners() {
        promise = 18;
        OnlyHalves x = with("5;6;7;8;t0-1*10,1;t2-0*10,1;t0-3*3,2;f0-3;q0-2", "10+f*50-q*5+h*100+s*10");
        due("partner", x.partner(0, 0), 55);
        dueRow(x, 3, 2, 270, 215);
        due("who holds the other half", x.partner(1, 0), 55);
        dueRow(x, 3, 2, 270, 215);
        due("no friends", x.partner(0, 1), 0);
        dueRow(x, 0, 0, 10, 10);
        rule(x, "o");
        due("by number", x.partner(4, 1), 3);
        dueRow(x, 3, 0, 3, 0);
        due("none such", x.partner(6, 0), -1);
        due("none such", x.partner(-1, 0), -1);
        due("none such", x.partner(0, 4), -1);
        due("none such", x.partner(0, -1), -1);
        dueRow(x, 3, 0, 3, 0);
        x = with("5;6;t0-1*10,1", "");
        due("one other", x.partner(0, 0), -1);
        market(x, "7");
        due("two others", x.partner(0, 0), 0);
        dueRow(x, 1, 1, 10, 10);
    }

    private static void dayPlans() {
        promise = 19;
        OnlyHalves x = with("1;1;1;1;t0-1*10,1;t1-2*25,1;t2-3*16,1;t0-3*9,1", "");
        due("day", x.day(), 34);
        dueRow(x, 10);
        x.sheet(2, 4, 10, 0);
        due("day", x.day(), 20);
        dueRow(x, 5);
        x.use(0);
        due("used already", x.day(), 20);
        promise = 20;
        due("quarrel", x.quarrel(0, 1), 0);
        dueRow(x, 5);
        x.sheet(2, 4, 20, -4);
        due("values", x.day(), 20 + 12);
        due("quarrel", x.quarrel(0, 1), 32 - (16 + 8));
        due("quarrel", x.quarrel(1, 0), 8);
        due("quarrel", x.quarrel(0, 2), 0);
        x.between(2, 3, 1);
        due("friends", x.quarrel(2, 3), 8);
        due("still friends", x.between(2, 3, 2), 1);
        due("already", x.quarrel(2, 3), -1);
        due("one", x.quarrel(2, 2), -1);
        due("none such", x.quarrel(2, 4), -1);
        due("none such", x.quarrel(-1, 2), -1);
        promise = 19;
        due("in quarrel", x.day(), 24);
        dueRow(x, 10);
        promise = 21;
        due("bars", x.bars(1), 4);
        due("bars", x.bars(2), 0);
        due("bars", x.bars(4), -1);
        due("bars", x.bars(-1), -1);
        dueRow(x, 10);
        promise = 22;
        due("without", x.without(2), 24 - 20);
        dueRow(x, 1);
        due("without", x.without(4), -1);
        due("without", x.without(-1), -1);
        dueRow(x, 1);
        due("without", x.without(0), 8);
        dueRow(x, 2);
    }

    private static void pairsAndWealth() {
        promise = 23;
        OnlyHalves x = new OnlyHalves();
        due("nobody", x.pair(), -2);
        market(x, "10");
        due("one", x.pair(), -2);
        dueRow(x);
        market(x, "20;30");
        due("no things", x.pair(), 0);
        dueRow(x, 0, 1, 0);
        market(x, "t2-1*5,1;t0-2*6,1;t1-2*7,2;t2-0*8,2");
        due("pair", x.pair(), 2);
        dueRow(x, 0, 2, 10);
        market(x, "t2-1*5,1");
        due("pair", x.pair(), 3);
        dueRow(x, 1, 2, 21);
        promise = 24;
        due("wealth", x.wealth(0), 10 + 6 + 8);
        due("wealth", x.wealth(1), 20 + 5 + 7 + 5);
        due("wealth", x.wealth(2), 30 + 5 + 6 + 7 + 8 + 5);
        due("wealth", x.wealth(3), -1);
        due("wealth", x.wealth(-1), -1);
        promise = 25;
        due("richest", x.richest(), 2);
        dueRow(x, 61, 24, 24 + 37 + 61);
        rule(x, "900");
        due("richest", x.richest(), 2);
        dueRow(x, 4530, 1810, 1810 + 2720 + 4530);
        x = new OnlyHalves();
        due("nobody", x.richest(), -2);
        market(x, "7;9;9");
        due("the first", x.richest(), 1);
        dueRow(x, 9, 7, 25);
    }

    private static void usesAndDays() {
        promise = 26;
        OnlyHalves x = with("1;998;3;4;t0-1*11,1;t1-2*25,1;t2-3*17,1;t3-0*1,1;q0-3", "");
        due("use", x.use(0), 6);
        due("coin", of(x, 0, 0), 7);
        due("coin above 999", of(x, 1, 0), 999);
        due("one took part", x.use(1), -3);
        due("in quarrel", x.use(3), -2);
        due("none such", x.use(4), -1);
        due("none such", x.use(-1), -1);
        due("use", x.use(2), 9);
        due("coin", of(x, 2, 0), 12);
        due("coin", of(x, 3, 0), 12);
        due("today", x.today(), 0);
        promise = 27;
        due("day", x.day(), 28);
        due("days(0)", x.days(0), 0);
        due("took part yet", of(x, 0, 4), 1);
        due("today", x.today(), 0);
        due("days(2)", x.days(2), 56);
        due("coin", of(x, 0, 0), 7 + 12);
        due("coin", of(x, 2, 0), 12 + 18);
        due("coin", of(x, 3, 0), 12 + 16);
        due("none took part", of(x, 0, 4), 0);
        promise = 42;
        due("today", x.today(), 2);
        promise = 27;
        due("days(100)", x.days(100), 2800);
        due("days(101)", x.days(101), -1);
        due("days(-1)", x.days(-1), -1);
        promise = 42;
        due("today", x.today(), 102);
    }

    private static void feasts() {
        promise = 28;
        OnlyHalves x = with("1;1;1;1;t0-1*11,1;t1-2*25,1;t2-3*17,1;t3-0*1,1;q0-3;q1-2", "");
        x.day();
        due("feast", x.feast(5), 1);
        dueRow(x, 5);
        due("none", x.feast(0), 1);
        due("one", x.feast(1), 1);
        due("quarrel", x.feast(8), 0);
        dueRow(x, 3, -1, -1);
        due("quarrels", x.feast(10), 0);
        dueRow(x, 1, -1, -1);
        due("both", x.feast(13), 0);
        dueRow(x, 3, 0, 3);
        due("all", x.feast(15), 0);
        dueRow(x, 1, 0, 1);
        due("the first pair", x.feast(14), 0);
        dueRow(x, 1, 1, 2);
        due("none such", x.feast(16), -1);
        due("none such", x.feast(-1), -1);
        due("none such", x.feast(Integer.MIN_VALUE), -1);
        due("no things", new OnlyHalves().feast(0), 1);
        due("no things", new OnlyHalves().feast(1), -1);
    }

    private static void preparing() {
        promise = 29;
        OnlyHalves x = with("1;1;1;1;t0-1*11,1;t1-2*25,1;t2-3*17,1;t3-0*1,1;q0-3;q1-2", "");
        due("ready", x.prepare(5), 0);
        dueRow(x);
        due("none told", x.prepare(0), 0);
        due("one", x.prepare(8), 1);
        dueRow(x, 61);
        due("two", x.prepare(10), 2);
        dueRow(x, 20, 71);
        due("too many", x.prepare(15), -3);
        due("none such", x.prepare(16), -1);
        due("none such", x.prepare(-1), -1);
        due("three things of four people", x.prepare(7), -2);
        dueRow(x, 20, 71);
        x = with("1;1;t0-1*11,1;t1-0*25,1", "");
        due("it can't be", x.prepare(3), -2);
        due("one", x.prepare(2), 0);
        x.between(0, 1, 2);
        due("it can't be", x.prepare(1), -2);
        x = with("1;1;1;1;1;1;1;1;t0-1*11,1;t1-0*25,1", "");
        due("one thing of eight", x.prepare(1), 0);
        due("two things of eight", x.prepare(3), -3);
        x = with("1;1;1;1;1;1;1;t0-1*11,1;t1-0*25,1", "");
        due("two things of seven", x.prepare(3), 2);
        dueRow(x, 2, 13);
    }

    private static void swapping() {
        promise = 30;
        OnlyHalves x = with("1;2;3;4;t0-1*10,1;t2-3*20,2;t0-2*30,3;f0-3", "v+i");
        due("may", x.maySwap(0, 2), 1);
        dueRow(x, 10, -10);
        due("may", x.maySwap(2, 0), 1);
        dueRow(x, -10, 10);
        due("one holder", x.maySwap(0, 4), 0);
        dueRow(x);
        x.day();
        due("like ones", x.maySwap(0, 0), -1);
        due("none such", x.maySwap(0, 6), -1);
        due("none such", x.maySwap(-1, 0), -1);
        due("the row stays", x.count(6), 1);
        due("one thing", x.maySwap(0, 1), 0);
        due("the vow", x.maySwap(0, 5), 0);
        due("the vow", x.maySwap(2, 4), 0);
        due("the vow", x.maySwap(3, 5), 0);
        due("the vow", x.maySwap(1, 4), 0);
        due("may", x.maySwap(3, 4), 1);
        dueRow(x, 10, -10);
        rule(x, "s*9+h*2+o*20");
        due("as held then", x.maySwap(3, 4), 1);
        dueRow(x, 2 + 40 - 40 - 2 + 0, 2 + 40 - 40 - 2 + 0);
        rule(x, "f*5+h");
        due("good", x.maySwap(0, 2), 1);
        dueRow(x, 5, 0);
        promise = 31;
        due("swap", x.swap(0, 2), 1);
        due("holder", thing(x, 0, 2), 2);
        due("holder", thing(x, 1, 2), 0);
        due("undo", x.undo(), 0);
        due("holder", thing(x, 0, 2), 0);
        due("may not", x.swap(2, 4), -2);
        due("like ones", x.swap(2, 2), -1);
        due("none such", x.swap(2, 6), -1);
        due("none such", x.swap(-1, 2), -1);
        due("count(3)", x.count(3), 0);
    }

    private static void goodSwaps() {
        promise = 32;
        OnlyHalves x = with("1;2;3;4;t0-1*10,1;t2-3*10,1;f0-2;f1-3", "f*9");
        due("good", x.good(), 2);
        dueRow(x, 3);
        promise = 30;
        due("may and is good", x.maySwap(3, 0), 2);
        dueRow(x, 9, 9);
        promise = 33;
        due("rests(0)", x.rests(0), 0);
        dueRow(x, 0, 0);
        due("rests(1)", x.rests(1), 1);
        dueRow(x, 1, 2);
        due("holder", thing(x, 0, 2), 3);
        due("kept", x.count(3), 1);
        due("rests(100)", x.rests(100), 0);
        due("rests(101)", x.rests(101), -1);
        due("rests(-1)", x.rests(-1), -1);
        dueRow(x, 1, 2);
        promise = 32;
        due("good", x.good(), 0);
        dueRow(x);
    }

    private static void friendships() {
        promise = 34;
        OnlyHalves x = with("1;2;3;4;t0-1*10,1;t2-3*10,1;f0-2;f1-3", "");
        due("friends", x.friends(), 1);
        dueRow(x, 2, 3);
        due("nothing changes", thing(x, 0, 2), 0);
        x.swap(0, 3);
        due("friends", x.friends(), 0);
        dueRow(x, 2);
        x = with("1;2;3;4;t0-1*10,1;t2-3*10,1", "");
        due("no friends", x.friends(), 0);
        dueRow(x, 0);
        x.between(0, 3, 1);
        due("one at most", x.friends(), 1);
        dueRow(x, 1, 2);
        x = with("1;2;3;4;5;6;7;8;t0-1*1,1;t2-3*1,1;t4-5*1,1;t6-7*1,1;t0-2*1,1;t4-6*1,1", "");
        x.day();
        due("too many", x.friends(), -3);
        due("the row stays", x.count(6), 1);
        promise = 35;
        due("too many", x.states(), -3);
        due("the row stays", x.count(6), 1);
    }

    private static void countedStates() {
        promise = 35;
        OnlyHalves x = with("1;2;3;4;t0-1*10,1;t2-3*15,1;f0-2;f1-3;q0-3", "f*9");
        due("states", x.states(), 24);
        // The four halves go to four people in 24 ways; good swaps leave none but the friends' ways,
        // and none are good from there; from the quarrel's ways 0-3, 1-2 there are some too.
        dueRow(x, 8, 25);
        x = with("1;2;t0-1*10,1;t1-0*15,1", "");
        due("no swap may be", x.states(), 1);
        dueRow(x, 1, 15);
        x.between(0, 1, 2);
        due("in quarrel", x.states(), 1);
        dueRow(x, 1, 0);
    }

    private static void estates() {
        promise = 36;
        // By bids of c / 2: who sells the dearer half first asks too much for the other one.
        OnlyHalves x = with("0;30;12;t0-1*9,0;t0-2*9,0", "c/2");
        x.law(0, 2);
        due("estate", x.estate(0), 21);
        dueRow(x, 2, 21);
        due("nothing changes", of(x, 0, 0), 0);
        due("nothing changes", thing(x, 0, 2), 0);
        due("nothing to sell", x.estate(1), 0);
        dueRow(x);
        due("none such", x.estate(3), -1);
        due("none such", x.estate(-1), -1);
        x.law(1, 9);
        due("with a fee", x.estate(0), 15);
        dueRow(x, 21);
        x.law(1, 20);
        due("too high a fee", x.estate(0), 0);
        dueRow(x);
        x = with("0;500;500;500;500;500;500;500;t0-1*1,0;t0-1*2,0;t0-1*3,0;t0-1*4,0;t0-1*5,0", "1+(i>0)*v+c/99");
        x.law(0, 2);
        due("too many", x.estate(0), -3);
    }

    private static void estateTies() {
        promise = 36;
        // Asked 0, bid above: all that can be is sold, though it brings nothing.
        OnlyHalves x = with("5;5;5;5;t0-1*9,0;t0-2*9,0", "i");
        due("for nothing", x.estate(0), 0);
        dueRow(x, 2, 21);
        due("of person 2", x.estate(2), 2);
        dueRow(x, 33);
        x.law(0, 2);
        due("the least row of the dearest", x.estate(0), 5);
        dueRow(x, 2, 23);
        // One whose coin is for one fee alone can shut out the second sale.
        x = with("5;0;5;5;t0-1*9,0;t0-2*9,0", "i");
        x.law(1, 5);
        due("for nothing", x.estate(0), 0);
        dueRow(x, 3);
        due("nothing changes", x.count(3), 0);
    }

    private static void greedyEstate() {
        promise = 37;
        OnlyHalves x = with("0;30;12;t0-1*9,0;t0-2*9,0", "c/2");
        x.law(0, 2);
        due("greedy", x.greedy(0), 15);
        dueRow(x, 1, 1);
        due("nothing changes", of(x, 0, 0), 0);
        due("nothing to sell", x.greedy(1), 0);
        dueRow(x, 0, 1);
        due("none such", x.greedy(3), -1);
        due("none such", x.greedy(-1), -1);
        dueRow(x, 0, 1);
        x = with("5;5;5;5;t0-1*9,0;t0-2*9,0", "i");
        due("for nothing", x.greedy(0), 0);
        dueRow(x, 2, 0);
    }

    private static void bookOfUses() {
        promise = 38;
        OnlyHalves x = with("1;2;3;4;t0-1*10,1;t2-3*15,1", "");
        due("told", x.told(0, 0, 1), 1);
        due("told", x.told(1, 3, 2), 2);
        due("told", x.told(0, 2, 0), 3);
        due("one", x.told(0, 1, 1), -1);
        due("none such", x.told(2, 0, 1), -1);
        due("none such", x.told(-1, 0, 1), -1);
        due("none such", x.told(0, 4, 1), -1);
        due("none such", x.told(0, 0, -1), -1);
        due("count(4)", x.count(4), 3);
        promise = 39;
        due("explains", x.explains(0), 2);
        dueRow(x, 2, 7);
        due("explains", x.explains(1), 0);
        dueRow(x, 1, 12);
        due("none such", x.explains(2), -1);
        due("none such", x.explains(-1), -1);
        dueRow(x, 1, 12);
        promise = 40;
        due("steady", x.steady(0), 1);
        due("steady", x.steady(1), 12);
        due("none such", x.steady(2), -1);
        due("none such", x.steady(-1), -1);
        promise = 39;
        x.told(0, 1, 3);
        x.told(0, 1, 3);
        due("both halves", x.explains(0), 1 + 2 + 0 + 1);
        dueRow(x, 4, 15);
        x.told(1, 0, 1);
        due("both halves", x.explains(1), 4);
        dueRow(x, 2, 15);
        promise = 40;
        due("steady", x.steady(0), 0);
        due("steady", x.steady(1), 0);
        promise = 38;
        for (int i = 7; i <= 16; i++) {
            due("told", x.told(0, 0, 1), i);
        }
        due("17th", x.told(0, 0, 1), -1);
        due("count(4)", x.count(4), 16);
        x = with("1;2;3;4;t0-1*10,1", "");
        promise = 39;
        due("none told", x.explains(0), 0);
        dueRow(x, 0, 3);
    }

    private static void calves() {
        promise = 41;
        OnlyHalves x = with("1;2;3;t0-1*11,4;t2-1*1,5", "");
        due("bear", x.bear(0), 2);
        due("value", thing(x, 2, 0), 5);
        due("kind", thing(x, 2, 1), 4);
        due("first", thing(x, 2, 2), 1);
        due("other", thing(x, 2, 3), 0);
        due("bear", x.bear(1), 3);
        due("1 at least", thing(x, 3, 0), 1);
        due("first", thing(x, 3, 2), 1);
        due("none such", x.bear(4), -1);
        due("none such", x.bear(-1), -1);
        for (int i = 4; i < 10; i++) {
            due("bear", x.bear(2), i);
        }
        due("10", x.bear(2), -1);
        due("count(1)", x.count(1), 10);
    }

    private static void keeping() {
        promise = 43;
        OnlyHalves x = with("1;2;3;4;t0-1*11,4;t2-3*9,5", "");
        due("seed", x.seed(77), 1);
        due("seed", x.seed(-8), 77);
        promise = 44;
        due("keep(2)", x.keep(2), false);
        due("keep(-1)", x.keep(-1), false);
        due("keep(1)", x.keep(1), true);
        x.swap(0, 2);
        x.between(0, 1, 1);
        x.between(2, 3, 2);
        x.seed(5);
        due("keep(0)", x.keep(0), true);
        x.days(1);
        x.use(0);
        x.law(0, 2);
        x.told(0, 0, 1);
        rule(x, "9");
        promise = 45;
        due("nothing kept", new OnlyHalves().again(0), false);
        due("again(2)", x.again(2), false);
        due("again(-1)", x.again(-1), false);
        due("again(1)", x.again(1), true);
        due("holder", thing(x, 0, 2), 0);
        due("coin", of(x, 2, 0), 3);
        due("friends", of(x, 0, 2), 0);
        due("quarrels", of(x, 2, 3), 0);
        due("took", of(x, 1, 4), 0);
        due("today", x.today(), 0);
        due("law stays", x.law(0, 2), 2);
        due("told stays", x.count(4), 1);
        due("rule stays", x.worth(0, 0), 9);
        due("again(0)", x.again(0), true);
        due("holder", thing(x, 0, 2), 2);
        due("friends", of(x, 0, 2), 2);
        due("quarrels", of(x, 2, 3), 8);
        due("seed", x.seed(6), 5);
        due("again(1)", x.again(1), true);
        due("seed", x.seed(6), -8);
        x.days(1);
        x.use(0);
        x.keep(0);
        x.days(1);
        x.again(0);
        due("today", x.today(), 1);
        due("took part", of(x, 0, 4), 1);
        market(x, "f0-1");
        due("no people came", x.again(0), true);
        due("not friends", of(x, 0, 2), 0);
        x.bear(0);
        due("things came", x.again(0), false);
        x.keep(0);
        market(x, "5");
        due("people came", x.again(0), false);
        due("people came", x.again(1), false);
        due("still friends", x.between(0, 1, 0), 0);
    }

    private static void countsAndRow() {
        promise = 46;
        OnlyHalves x = with("1;2;3;4;t0-1*11,4;t2-3*9,5;f2-3", "");
        x.swap(0, 2);
        x.swap(0, 2);
        x.told(0, 1, 2);
        x.richest();
        x.sign(0);
        int[] want = {4, 2, 2, 2, 1, 10, 3, 4};
        for (int what = 0; what < want.length; what++) {
            due("count(" + what + ")", x.count(what), want[what]);
        }
        due("count(8)", x.count(8), -1);
        due("count(-1)", x.count(-1), -1);
        promise = 47;
        due("row(0)", row(x, 0), 13);
        due("row(2)", row(x, 2), 12 + 13 + 12 + 13);
        due("row(3)", row(x, 3), THROWN);
        due("row(-1)", row(x, -1), THROWN);
        due("row(max)", row(x, Integer.MAX_VALUE), THROWN);
    }

    private static void refusalsChangeNothing() {
        promise = 47;
        OnlyHalves x = with("1;2;3;4;t0-1*11,4;t2-3*9,5;f2-3", "");
        x.pair();
        x.can(9, 9);
        x.can(0, 1);
        x.judge(9, 9);
        x.run(9, 9);
        x.partner(9, 9);
        x.without(9);
        x.feast(-9);
        x.prepare(-9);
        x.maySwap(9, 9);
        x.rests(-9);
        x.estate(9);
        x.greedy(9);
        x.explains(9);
        x.sell(0, 1);
        x.sell(0, 2);
        x.swap(0, 1);
        dueRow(x, 0, 1, 1);
    }
}
