import java.util.ArrayList;
import java.util.List;
import java.util.function.Consumer;

/** The edges of sales: promises 11 to 18, and what the terms tell of worth, sales and draws. */
public final class EdgesSalesTest {
    private static final Edge EDGE = new Edge();
    private static final String EIGHT = "999;999;999;999;999;999;999;999";
    private static final String FIVE_THINGS = "t0-1*1,0;t0-1*2,1;t0-1*3,2;t0-1*4,3;t0-1*5,4";
    private static final int[] NO_HALF = {-1, 4, 5, 20, Integer.MIN_VALUE, Integer.MAX_VALUE};
    private static final int[] NOBODY = {-1, 4, 8, Integer.MIN_VALUE, Integer.MAX_VALUE};

    public static void main(String[] args) {
        worthToWhom();
        worthOfNone();
        bidAboveAsked();
        priceAndFeeAtLeast();
        halfIsCut();
        canAnswers();
        neitherHalf();
        sellAnswers();
        coinAboveTheMost();
        feeIsLost();
        undoOfSales();
        thirtyAreKept();
        undoOfNone();
        whatForgets();
        whatForgetsNothing();
        judgeOneBehindTheOther();
        judgeTheFirstThatCannot();
        judgeNumbers();
        openSales();
        runsByTheBest();
        runsByTheLeast();
        runsByDraws();
        runsOfSoMany();
        partners();
        partnersOfFew();
        theVowHolds();
        EDGE.end(11, 18);
    }

    /** Four people; THING 0 of 0 and 1, THING 1 of 2 and 3. */
    private static OnlyHalves four(String rule) {
        return Edge.with(rule, "20;20;20;20;t0-1*10,1;t2-3*10,1");
    }

    // ---- worth

    private static void worthToWhom() {
        EDGE.says(11, "to who holds it as it is");
        OnlyHalves x = Edge.with("v+c*2+h*100", "5;6;7;t0-1*10,1;t0-2*20,1");
        EDGE.due("worth(0, 0)", x.worth(0, 0), 10 + 10 + 100);
        EDGE.due("worth(1, 1)", x.worth(1, 1), 10 + 12);
        EDGE.due("worth(3, 2)", x.worth(3, 2), 20 + 14);
        EDGE.says(11, "to one who holds neither HALF of the THING as a buyer");
        EDGE.due("worth(0, 2)", x.worth(0, 2), 10 + 14 + 100);
        EDGE.due("worth(1, 2)", x.worth(1, 2), 10 + 14 + 100);
        EDGE.due("worth(3, 1)", x.worth(3, 1), 20 + 12 + 100);
        EDGE.says(0, "to the buyer BID (as if it held it not yet)");
        x.can(0, 2);
        EDGE.dueRow(x, 120, 124, 120);
    }

    private static void worthOfNone() {
        EDGE.says(11, "-2: one holds the other HALF; NONE: none such.");
        OnlyHalves x = four("i");
        int[][] pairs = {{0, 1}, {1, 0}, {2, 3}, {3, 2}};
        for (int[] pair : pairs) {
            EDGE.stays(x, "worth of the other HALF", -2, () -> x.worth(pair[0], pair[1]));
            EDGE.due("worth of its own", x.worth(pair[0], pair[1] ^ 1), pair[1] ^ 1);
        }
        for (int half : NO_HALF) {
            EDGE.refused(x, "worth(" + half + ", 0)", () -> x.worth(half, 0));
        }
        for (int person : NOBODY) {
            EDGE.refused(x, "worth(0, " + person + ")", () -> x.worth(0, person));
        }
        OnlyHalves none = new OnlyHalves();
        EDGE.refused(none, "worth(0, 0)", () -> none.worth(0, 0));
    }

    // ---- one sale

    private static void bidAboveAsked() {
        EDGE.says(0, "It CAN BE, if BID is above ASKED");
        EDGE.due("BID is ASKED", four("10").can(0, 2), 0);
        EDGE.due("both are 0", four("0").can(0, 2), 0);
        EDGE.due("one above", four("10+(i=2)").can(0, 2), 1);
        EDGE.due("one below", four("10-(i=2)").can(0, 2), 0);
        EDGE.due("both above 999", four("999+i*9").can(0, 2), 0);
        EDGE.due("both below 0", four("i-5").can(0, 2), 0);
    }

    private static void priceAndFeeAtLeast() {
        EDGE.says(0, "COIN of the buyer PRICE and FEE at least");
        OnlyHalves x = four("(i=2)*20");
        x.law(0, 2);
        EDGE.due("COIN is PRICE", x.can(0, 2), 1);
        x.law(1, 1);
        EDGE.due("COIN is below PRICE and FEE", x.can(0, 2), 0);
        EDGE.due("sell", x.sell(0, 2), -3);
        Edge.rule(x, "(i=2)*19");
        EDGE.due("COIN is PRICE and FEE", x.can(0, 2), 1);
        EDGE.due("sell", x.sell(0, 2), 19);
        EDGE.due("of(2, 0)", Edge.of(x, 2, 0), 0);
        x = four("(i=2)*21");
        x.law(0, 2);
        EDGE.due("COIN is below PRICE", x.can(0, 2), 0);
        x = four("20+(i=2)");
        EDGE.due("PRICE is ASKED", x.can(0, 2), 1);
        x = four("21+(i=2)");
        EDGE.due("PRICE is ASKED", x.can(0, 2), 0);
        x = Edge.with("i", "999;999;99;98;t0-1*1,1");
        x.law(1, 99);
        EDGE.due("FEE alone", x.can(0, 2), 1);
        EDGE.due("FEE alone", x.can(0, 3), 0);
    }

    private static void halfIsCut() {
        EDGE.says(0, "0: ASKED, 1: half of ASKED and BID (cut), 2: BID");
        OnlyHalves x = four("10+(i=2)*3");
        x.can(0, 2);
        EDGE.dueRow(x, 10, 13, 10);
        x.law(0, 1);
        x.can(0, 2);
        EDGE.dueRow(x, 10, 13, 11);
        Edge.rule(x, "10+(i=2)*4");
        x.can(0, 2);
        EDGE.dueRow(x, 10, 14, 12);
        x.law(0, 2);
        x.can(0, 2);
        EDGE.dueRow(x, 10, 14, 14);
        Edge.rule(x, "i=2");
        x.law(0, 1);
        EDGE.due("half of 0 and 1", x.sell(0, 2), 0);
        EDGE.due("of(2, 0)", Edge.of(x, 2, 0), 20);
    }

    private static void canAnswers() {
        EDGE.says(12, "Whether a SALE CAN BE: 1, 0; the ROW: ASKED, BID, PRICE.");
        OnlyHalves x = four("i*10");
        EDGE.due("can(0, 2)", x.can(0, 2), 1);
        EDGE.dueRow(x, 0, 20, 0);
        EDGE.due("can(3, 1)", x.can(3, 1), 0);
        EDGE.dueRow(x, 30, 10, 30);
        EDGE.due("nothing is made", x.count(3), 0);
        EDGE.says(12, "-2: the buyer holds a HALF of that THING");
        EDGE.stays(x, "can(0, 0)", -2, () -> x.can(0, 0));
        EDGE.stays(x, "can(0, 1)", -2, () -> x.can(0, 1));
        EDGE.stays(x, "can(3, 3)", -2, () -> x.can(3, 3));
        EDGE.stays(x, "can(3, 2)", -2, () -> x.can(3, 2));
        EDGE.says(12, "NONE: none such");
        for (int half : NO_HALF) {
            EDGE.refused(x, "can(" + half + ", 0)", () -> x.can(half, 0));
        }
        for (int person : NOBODY) {
            EDGE.refused(x, "can(0, " + person + ")", () -> x.can(0, person));
        }
    }

    private static void neitherHalf() {
        EDGE.says(0, "A SALE of a HALF to one who holds neither HALF of that THING");
        // 1 would pay the most, but holds a HALF of each THING.
        OnlyHalves x = Edge.with("(i=1)*9+(i=2)", "20;20;20;t0-1*10,1;t1-0*10,1");
        EDGE.due("open", x.open(), 2);
        EDGE.dueRow(x, 2, 1);
        EDGE.due("judge", x.judge(1, 1), 0);
        EDGE.due("sell", x.sell(0, 1), -2);
        EDGE.due("greedy", x.greedy(0), 0);
        EDGE.dueRow(x, 2, 0);
        EDGE.due("estate", x.estate(0), 0);
        EDGE.dueRow(x, 2, 32);
        EDGE.due("run", x.run(0, 100), 2);
    }

    private static void sellAnswers() {
        EDGE.says(13, "It is made: PRICE.");
        OnlyHalves x = four("i*10");
        EDGE.due("of a PRICE of 0", x.sell(0, 2), 0);
        EDGE.due("who holds it", Edge.thing(x, 0, 2), 2);
        EDGE.due("of a PRICE of 10", x.sell(1, 3), 10);
        EDGE.due("who holds it", Edge.thing(x, 0, 3), 3);
        EDGE.due("of(1, 0)", Edge.of(x, 1, 0), 30);
        EDGE.due("of(3, 0)", Edge.of(x, 3, 0), 10);
        EDGE.due("of(0, 0)", Edge.of(x, 0, 0), 20);
        EDGE.dueRow(x);
        EDGE.says(13, "-2: as can(); -3: it can't be; NONE: none such.");
        EDGE.stays(x, "sell(0, 2)", -2, () -> x.sell(0, 2));
        EDGE.stays(x, "sell(0, 3)", -2, () -> x.sell(0, 3));
        EDGE.stays(x, "sell(1, 2)", -2, () -> x.sell(1, 2));
        EDGE.stays(x, "sell(0, 1)", -3, () -> x.sell(0, 1));
        EDGE.stays(x, "sell(2, 1)", -3, () -> x.sell(2, 1));
        for (int half : NO_HALF) {
            EDGE.refused(x, "sell(" + half + ", 0)", () -> x.sell(half, 0));
        }
        for (int person : NOBODY) {
            EDGE.refused(x, "sell(0, " + person + ")", () -> x.sell(0, person));
        }
    }

    private static void coinAboveTheMost() {
        EDGE.says(0, "COIN above 999 is lost.");
        for (int coin = 988; coin <= 999; coin++) {
            OnlyHalves x = Edge.with("(i=2)*9", coin + ";20;20;t0-1*10,1");
            x.law(0, 2);
            EDGE.due("sell", x.sell(0, 2), 9);
            EDGE.due("of(0, 0)", Edge.of(x, 0, 0), Math.min(999, coin + 9));
            EDGE.due("of(2, 0)", Edge.of(x, 2, 0), 11);
            EDGE.due("undo", x.undo(), 0);
            EDGE.due("of(0, 0)", Edge.of(x, 0, 0), coin);
        }
        // The fifth to the eighth, too.
        OnlyHalves x = Edge.with("(i<4)*9", "1;2;3;49;995;996;997;998;t7-4*10,1");
        x.law(0, 2);
        EDGE.due("sell", x.sell(0, 3), 9);
        EDGE.due("of(7, 0)", Edge.of(x, 7, 0), 999);
        EDGE.due("of(3, 0)", Edge.of(x, 3, 0), 40);
        EDGE.due("of(6, 0)", Edge.of(x, 6, 0), 997);
    }

    private static void feeIsLost() {
        EDGE.says(0, "is paid too, and lost");
        OnlyHalves x = four("i*5");
        x.law(1, 7);
        x.law(0, 2);
        EDGE.due("sell", x.sell(0, 2), 10);
        EDGE.due("of(0, 0)", Edge.of(x, 0, 0), 30);
        EDGE.due("of(2, 0)", Edge.of(x, 2, 0), 3);
        EDGE.due("count(5)", x.count(5), 73);
    }

    // ---- undo

    private static void undoOfSales() {
        EDGE.says(14, "COIN and who holds what are as ahead of it: how many are left that can be");
        OnlyHalves x = Edge.with("i*10", "995;990;30;40;t0-1*10,1;t2-3*10,1");
        x.law(0, 2);
        x.law(1, 3);
        EDGE.due("sell", x.sell(0, 2), 20);
        EDGE.due("swap", x.swap(1, 3), 0);
        EDGE.due("sell", x.sell(1, 1), -3);
        EDGE.due("sell", x.sell(3, 0), -3);
        EDGE.due("swap", x.swap(0, 2), -2);
        EDGE.due("sell", x.sell(3, 3), 30);
        EDGE.due("coin is lost", Edge.of(x, 1, 0), 999);
        EDGE.due("undo", x.undo(), 2);
        EDGE.due("of(1, 0)", Edge.of(x, 1, 0), 990);
        EDGE.due("of(3, 0)", Edge.of(x, 3, 0), 40);
        EDGE.due("of(2, 0)", Edge.of(x, 2, 0), 7);
        EDGE.due("thing(1, 3)", Edge.thing(x, 1, 3), 1);
        EDGE.due("thing(0, 3)", Edge.thing(x, 0, 3), 3);
        x.between(0, 1, 2);
        x.seed(77);
        EDGE.due("undo", x.undo(), 1);
        EDGE.due("thing(0, 2)", Edge.thing(x, 0, 2), 2);
        EDGE.due("thing(0, 3)", Edge.thing(x, 0, 3), 1);
        EDGE.due("thing(1, 3)", Edge.thing(x, 1, 3), 3);
        EDGE.due("undo", x.undo(), 0);
        EDGE.due("of(0, 0)", Edge.of(x, 0, 0), 995);
        EDGE.due("of(2, 0)", Edge.of(x, 2, 0), 30);
        EDGE.due("thing(0, 2)", Edge.thing(x, 0, 2), 0);
        EDGE.due("QUARRELS stay", Edge.of(x, 0, 3), 2);
        EDGE.due("R stays", x.seed(1), 77);
    }

    private static void thirtyAreKept() {
        EDGE.says(14, "The latest SALE or SWAP (of 30 that are kept, the latest ones)");
        for (int n : new int[] {29, 30, 31, 60, 61, 95}) {
            OnlyHalves x = Edge.with("i", EIGHT, FIVE_THINGS, FIVE_THINGS);
            EDGE.due("run(1, " + n + ")", x.run(1, n), n);
            int kept = Math.min(30, n);
            EDGE.due("count(3)", x.count(3), kept);
            for (int left = kept - 1; left >= 0; left--) {
                EDGE.due("undo()", x.undo(), left);
            }
            EDGE.due("undo()", x.undo(), -1);
            OnlyHalves y = Edge.with("i", EIGHT, FIVE_THINGS, FIVE_THINGS);
            y.run(1, n - kept);
            for (int person = 0; person < 8; person++) {
                EDGE.due("COIN", Edge.of(x, person, 0), Edge.of(y, person, 0));
                EDGE.due("HALVES", Edge.of(x, person, 1), Edge.of(y, person, 1));
            }
            EDGE.due("one more", x.run(1, 1), 1);
            EDGE.due("undo()", x.undo(), 0);
        }
        OnlyHalves x = four("");
        for (int i = 0; i < 31; i++) {
            x.swap(0, 2);
        }
        EDGE.due("count(3) of SWAPS", x.count(3), 30);
        OnlyHalves rests = Edge.with("f*9", "1;2;3;4;t0-1*10,1;t2-3*10,1;f0-2;f1-3");
        rests.rests(100);
        EDGE.due("count(3) of rests()", rests.count(3), 1);
    }

    private static void undoOfNone() {
        EDGE.says(14, "Refused: none.");
        OnlyHalves x = new OnlyHalves();
        EDGE.refused(x, "undo()", x::undo);
        OnlyHalves y = four("i");
        EDGE.refused(y, "undo()", y::undo);
        y.sell(0, 2);
        y.undo();
        EDGE.refused(y, "undo()", y::undo);
    }

    private static void forgets(String call, int left, Consumer<OnlyHalves> made) {
        OnlyHalves x = Edge.with("", "1;2;3;4;t0-1*10,1;t2-3*10,1;t0-2*10,1;q0-2");
        x.keep(0);
        x.swap(0, 3);
        x.swap(0, 3);
        made.accept(x);
        EDGE.due("count(3) behind " + call, x.count(3), left);
        EDGE.due("undo() behind " + call, x.undo(), left - 1);
    }

    private static void whatForgets() {
        EDGE.says(14, "(market(), use(), days(), bear() and again() forget them");
        forgets("market() of one", 0, x -> Edge.market(x, "5"));
        forgets("market() of a THING", 0, x -> Edge.market(x, "t0-1*1,1"));
        forgets("market() of FRIENDS", 0, x -> Edge.market(x, "f0-1"));
        forgets("use(0)", 0, x -> x.use(0));
        forgets("days(1)", 0, x -> x.days(1));
        forgets("days(0)", 0, x -> x.days(0));
        forgets("days(100)", 0, x -> x.days(100));
        forgets("bear(0)", 0, x -> x.bear(0));
        forgets("again(0)", 0, x -> x.again(0));
    }

    private static void whatForgetsNothing() {
        EDGE.says(14, "if they are not refused");
        forgets("a market() that can't stand", 2, x -> Edge.market(x, "5;x"));
        forgets("a market() that ends too early", 2, x -> Edge.market(x, "5;"));
        forgets("a market() too long", 2, x -> Edge.market(x, Edge.times("f0-1;", 16)));
        forgets("use(-1)", 2, x -> x.use(-1));
        forgets("use(3)", 2, x -> x.use(3));
        forgets("use(2), in QUARREL", 2, x -> x.use(2));
        forgets("days(-1)", 2, x -> x.days(-1));
        forgets("days(101)", 2, x -> x.days(101));
        forgets("bear(-1)", 2, x -> x.bear(-1));
        forgets("bear(3)", 2, x -> x.bear(3));
        forgets("again(1)", 2, x -> x.again(1));
        forgets("again(2)", 2, x -> x.again(2));
        forgets("again(-1)", 2, x -> x.again(-1));
        EDGE.says(14, "an empty market() does not");
        forgets("an empty market()", 2, OnlyHalves::market);
        EDGE.says(14, "how many are left that can be");
        forgets("calls that it does not name", 2, x -> {
            x.keep(1);
            x.sheet(2, 3, 9, 0);
            x.between(0, 1, 1);
            x.law(0, 2);
            x.seed(9);
            x.told(0, 0, 1);
            Edge.rule(x, "v");
            x.sell(0, 1);
            x.run(0, 0);
            x.rests(0);
            x.estate(0);
            x.friends();
        });
        OnlyHalves x = Edge.with("", "1;2;3;4;t0-1*10,1;t2-3*10,1");
        x.use(0);
        x.swap(0, 2);
        EDGE.due("use(0) of one who took part", x.use(0), -3);
        EDGE.due("undo()", x.undo(), 0);
        for (int thing = 2; thing < 10; thing++) {
            x.bear(0);
        }
        x.swap(0, 2);
        EDGE.due("bear(0) of ten", x.bear(0), -1);
        EDGE.due("undo()", x.undo(), 0);
        x.keep(0);
        Edge.market(x, "5");
        x.swap(0, 2);
        EDGE.due("again(0) of PEOPLE that came", x.again(0), false);
        EDGE.due("undo()", x.undo(), 0);
    }

    // ---- judge

    private static void judgeOneBehindTheOther() {
        EDGE.says(15, "-2: all can be made, one behind the other");
        OnlyHalves x = four("i*10");
        EDGE.due("one", x.judge(1, 2), -2);
        EDGE.dueRow(x, 0);
        EDGE.due("the second SALE sells what the first one bought", x.judge(2, 2 | 3 << 10), -2);
        EDGE.dueRow(x, 20);
        EDGE.due("and the first alone can't be", x.judge(1, 3 | 2 << 10), -2);
        EDGE.due("the third", x.judge(3, 2 | 12 << 10 | 13 << 20), 1);
        EDGE.due("the third", x.judge(3, 2 | 13 << 10 | 20 << 20), 2);
        // Coin that the first SALE brings pays for the second one.
        OnlyHalves y = Edge.with("i*10", "5;0;40;30;t1-0*10,1;t0-2*10,1");
        y.law(0, 2);
        EDGE.due("too dear at once", y.judge(1, 21), 0);
        EDGE.due("paid by what came", y.judge(2, 3 | 21 << 10), -2);
        EDGE.dueRow(y, 40);
        EDGE.says(15, "Nothing changes.");
        EDGE.stays(y, "judge(2, ..), the ROW told already", -2, () -> y.judge(2, 3 | 21 << 10));
        y.judge(3, 3 | 21 << 10 | 21 << 20);
        EDGE.stays(y, "judge(3, ..), the ROW told already", 2, () -> y.judge(3, 3 | 21 << 10 | 21 << 20));
    }

    private static void judgeTheFirstThatCannot() {
        EDGE.says(15, "else the number of the first that can't (0 ..); the ROW: the sum of PRICES till then");
        OnlyHalves x = four("i*10");
        EDGE.due("the first", x.judge(3, 0 | 13 << 10 | 2 << 20), 0);
        EDGE.dueRow(x, 0);
        EDGE.due("the second", x.judge(3, 13 | 13 << 10 | 2 << 20), 1);
        EDGE.dueRow(x, 10);
        EDGE.due("the third", x.judge(3, 13 | 2 << 10 | 12 << 20), 2);
        EDGE.dueRow(x, 10);
        EDGE.due("the third alone", x.judge(3, 13 | 2 << 10 | 1023 << 20), 2);
        EDGE.due("two", x.judge(2, 13 | 2 << 10 | 1023 << 20), -2);
        EDGE.due("a HALF that is not there", x.judge(1, 42), 0);
        EDGE.due("one of PEOPLE that is not there", x.judge(1, 4), 0);
        EDGE.due("one of PEOPLE that can't be there", x.judge(1, 9), 0);
        EDGE.due("to who holds it", x.judge(1, 0), 0);
        EDGE.due("to who holds the other HALF", x.judge(1, 1), 0);
        x.law(1, 21);
        EDGE.due("too high a FEE", x.judge(1, 2), 0);
        EDGE.dueRow(x, 0);
        OnlyHalves ten = Edge.with("i", EIGHT, FIVE_THINGS, FIVE_THINGS);
        EDGE.due("the last HALF", ten.judge(1, 197), -2);
        EDGE.due("no HALF 20", ten.judge(1, 202), 0);
        EDGE.due("no HALF 102", ten.judge(1, 1022), 0);
    }

    private static void judgeNumbers() {
        EDGE.says(15, "n (0 .. 3), 10 bits each (as SALES are told), from the lowest on");
        OnlyHalves x = four("i*10");
        EDGE.due("judge(0, -1)", x.judge(0, -1), -2);
        EDGE.dueRow(x, 0);
        EDGE.due("the highest bits are left", x.judge(3, 2 | 3 << 10 | 12 << 20 | 3 << 30), -2);
        EDGE.dueRow(x, 30);
        EDGE.due("the highest bits are left", x.judge(3, 2 | 13 << 10 | 12 << 20 | 2 << 30), 2);
        EDGE.dueRow(x, 10);
        EDGE.due("all bits", x.judge(3, -1), 0);
        EDGE.says(15, "NONE: another n.");
        for (int n : new int[] {-1, 4, Integer.MIN_VALUE, Integer.MAX_VALUE}) {
            EDGE.refused(x, "judge(" + n + ", 2)", () -> x.judge(n, 2));
        }
    }

    // ---- open, run

    private static void openSales() {
        EDGE.says(16, "of equal ones the least as it is told");
        OnlyHalves x = four("(i>1)*10");
        EDGE.due("open", x.open(), 4);
        EDGE.dueRow(x, 2, 10);
        Edge.rule(x, "i*10");
        // 0 to 2, 3; 1 to 2, 3: by 20, 30, 10, 20.
        EDGE.due("open", x.open(), 4);
        EDGE.dueRow(x, 3, 30);
        Edge.rule(x, "(i=3)*(o=0)+(i=2)*(o=1)");
        EDGE.due("one by 1", x.open(), 2);
        EDGE.dueRow(x, 2, 1);
        Edge.rule(x, "(i=3)*(o=0)");
        EDGE.due("the one that there is", x.open(), 1);
        EDGE.dueRow(x, 13, 1);
        EDGE.says(16, "the one with the greatest BID less ASKED");
        // THING 0: ASKED 20, BID 30; THING 1: ASKED 2, BID 13.
        OnlyHalves asked = Edge.with("v+(i=4)*(10+k)", "99;99;99;99;99;t0-1*20,0;t2-3*2,1");
        EDGE.due("open", asked.open(), 4);
        EDGE.dueRow(asked, 24, 11);
        asked.run(0, 1);
        EDGE.due("thing(1, 2)", Edge.thing(asked, 1, 2), 4);
        EDGE.says(16, "by how much it is (none without)");
        Edge.rule(x, "");
        EDGE.due("none", x.open(), 0);
        EDGE.dueRow(x);
        EDGE.due("nobody", new OnlyHalves().open(), 0);
        OnlyHalves two = Edge.with("i", "9;9;t0-1*1,1");
        EDGE.due("nobody else", two.open(), 0);
        EDGE.dueRow(two);
        for (int sort = 0; sort < 3; sort++) {
            EDGE.due("nobody else to run", two.run(sort, 100), 0);
            EDGE.dueRow(two, 1, 0);
        }
        x.law(1, 21);
        Edge.rule(x, "i*10");
        EDGE.due("none can pay", x.open(), 0);
        EDGE.says(0, "A SALE is told as 10 times the HALF, and the buyer");
        OnlyHalves ten = Edge.with("(i=7)*k", EIGHT, FIVE_THINGS, FIVE_THINGS);
        EDGE.due("open", ten.open(), 16);
        EDGE.dueRow(ten, 87, 4);
        ten.between(0, 7, 1);
        Edge.rule(ten, "(i=7)*(k=4)*(c+f)");
        EDGE.due("the second HALF's, as FRIENDS hold it then", ten.open(), 4);
        EDGE.dueRow(ten, 87, 999);
        ten = Edge.with("(i=7)*(v=5)*o", EIGHT, FIVE_THINGS, FIVE_THINGS);
        EDGE.due("open", ten.open(), 2);
        EDGE.dueRow(ten, 87, 1);
        ten.sell(87 / 10, 7);
        EDGE.due("open", ten.open(), 1);
        EDGE.dueRow(ten, 187, 1);
    }

    private static void runsByTheBest() {
        EDGE.says(17, "sort 0: each time the one that open() tells");
        OnlyHalves x = Edge.with("c+i*7-h*3", "50;80;20;60;t0-1*10,1;t2-3*10,1;t3-0*5,2");
        OnlyHalves y = Edge.with("c+i*7-h*3", "50;80;20;60;t0-1*10,1;t2-3*10,1;t3-0*5,2");
        int made = 0;
        int sum = 0;
        while (made < 100 && y.open() > 0) {
            int sale = Edge.row(y, 0);
            sum += y.sell(sale / 10, sale % 10);
            made++;
        }
        EDGE.due("some are made", made > 1, true);
        EDGE.due("run(0, 100)", x.run(0, 100), made);
        EDGE.dueRow(x, made < 100 ? 1 : 0, sum);
        for (int person = 0; person < 4; person++) {
            EDGE.due("COIN", Edge.of(x, person, 0), Edge.of(y, person, 0));
            EDGE.due("HALVES", Edge.of(x, person, 1), Edge.of(y, person, 1));
        }
    }

    private static void runsByTheLeast() {
        EDGE.says(17, "1: the least as it is told");
        OnlyHalves x = four("i*10");
        // 2 and 3 for 0 and 20; 12 for 10; then nothing more can be of HALF 1, whose buyers hold a HALF.
        EDGE.due("run(1, 1)", x.run(1, 1), 1);
        EDGE.due("thing(0, 2)", Edge.thing(x, 0, 2), 2);
        EDGE.due("run(1, 1)", x.run(1, 1), 1);
        EDGE.dueRow(x, 0, 20);
        EDGE.due("thing(0, 2)", Edge.thing(x, 0, 2), 3);
        EDGE.due("run(1, 100)", x.run(1, 100), 1);
        EDGE.dueRow(x, 1, 10);
        EDGE.due("thing(0, 3)", Edge.thing(x, 0, 3), 2);
    }

    private static List<Integer> salesOf(OnlyHalves x) {
        List<Integer> sales = new ArrayList<>();
        for (int half = 0; half < 2 * x.count(1); half++) {
            for (int buyer = 0; buyer < x.count(0); buyer++) {
                if (x.can(half, buyer) == 1) {
                    sales.add(10 * half + buyer);
                }
            }
        }
        return sales;
    }

    private static void runsByDraws() {
        EDGE.says(0, "A DRAW of n: R = R times 1103515245 + 12345 (as ints; R at first 1), (R without sign, by 65536) % n.");
        for (int seed : new int[] {1, 0, -1, 2, 12345, Integer.MIN_VALUE, Integer.MAX_VALUE, 98765432}) {
            OnlyHalves x = Edge.with("c+i*7-h*3", "50;80;20;60;90;t0-1*10,1;t2-3*10,1;t3-0*5,2");
            if (seed != 1) {
                x.seed(seed);
            }
            int r = seed;
            for (int i = 0; i < 25; i++) {
                List<Integer> sales = salesOf(x);
                EDGE.says(17, "2: by a DRAW of all that CAN BE (by their numbers)");
                if (sales.isEmpty()) {
                    EDGE.due("run(2, 1)", x.run(2, 1), 0);
                    EDGE.dueRow(x, 1, 0);
                    break;
                }
                r = r * 1103515245 + 12345;
                int sale = sales.get((int) ((r & 0xffffffffL) / 65536 % sales.size()));
                EDGE.due("run(2, 1)", x.run(2, 1), 1);
                EDGE.due("who holds it", Edge.thing(x, sale / 20, 2 + sale / 10 % 2), sale % 10);
            }
            EDGE.due("no DRAW more than SALES", x.seed(0), r);
        }
        OnlyHalves x = four("i*10");
        x.run(0, 1);
        x.run(1, 1);
        x.run(2, 0);
        EDGE.due("no DRAW for other sorts, and none for none", x.seed(0), 1);
    }

    private static void runsOfSoMany() {
        EDGE.says(17, "at most n (0 .. 100)");
        OnlyHalves x = Edge.with("i", EIGHT, FIVE_THINGS, FIVE_THINGS);
        EDGE.due("run(1, 0)", x.run(1, 0), 0);
        EDGE.dueRow(x, 0, 0);
        EDGE.due("count(3)", x.count(3), 0);
        EDGE.due("run(1, 99)", x.run(1, 99), 99);
        EDGE.due("the first of row", Edge.row(x, 0), 0);
        OnlyHalves y = Edge.with("i", EIGHT, FIVE_THINGS, FIVE_THINGS);
        EDGE.due("run(1, 100)", y.run(1, 100), 100);
        EDGE.due("the first of row", Edge.row(y, 0), 0);
        EDGE.says(17, "the ROW: 1 if none CAN BE then, the sum of PRICES");
        OnlyHalves z = four("i*10");
        EDGE.due("run(0, 1)", z.run(0, 1), 1);
        EDGE.dueRow(z, 0, 0);
        EDGE.due("the last one", z.run(0, 1), 1);
        EDGE.dueRow(z, 1, 10);
        EDGE.due("none", z.run(0, 0), 0);
        EDGE.dueRow(z, 1, 0);
        EDGE.due("nobody", new OnlyHalves().run(2, 100), 0);
        EDGE.says(17, "NONE: others.");
        for (int sort : new int[] {-1, 3, Integer.MIN_VALUE, Integer.MAX_VALUE}) {
            EDGE.refused(x, "run(" + sort + ", 1)", () -> x.run(sort, 1));
        }
        for (int n : new int[] {-1, 101, Integer.MIN_VALUE, Integer.MAX_VALUE}) {
            for (int sort = 0; sort < 3; sort++) {
                int s = sort;
                EDGE.refused(x, "run(" + sort + ", " + n + ")", () -> x.run(s, n));
            }
        }
    }

    // ---- partner

    private static void partners() {
        EDGE.says(18, "who makes it worth the most, who the least (the first of equal ones), both");
        OnlyHalves x = Edge.with("o*5", "5;6;7;8;t0-1*10,1;t2-0*10,1;f0-3;q0-2");
        EDGE.due("of o * 5, to 0", x.partner(0, 0), 10);
        EDGE.dueRow(x, 3, 1, 15, 5);
        EDGE.due("of o * 5, to 3", x.partner(0, 3), 10);
        EDGE.dueRow(x, 2, 0, 10, 0);
        Edge.rule(x, "7");
        EDGE.due("equal ones", x.partner(3, 0), 0);
        EDGE.dueRow(x, 1, 1, 7, 7);
        EDGE.due("equal ones", x.partner(3, 1), 0);
        EDGE.dueRow(x, 0, 0, 7, 7);
        Edge.rule(x, "999");
        EDGE.due("the greatest WORTH", x.partner(3, 1), 0);
        EDGE.dueRow(x, 0, 0, 999, 999);
        Edge.rule(x, "(o<3)*999");
        EDGE.due("of the greatest and none", x.partner(3, 1), 999);
        EDGE.dueRow(x, 0, 3, 999, 0);
        Edge.rule(x, "0-5");
        EDGE.due("below 0", x.partner(3, 1), 0);
        EDGE.dueRow(x, 0, 0, 0, 0);
        Edge.rule(x, "5+f*20-q*3");
        EDGE.due("FRIENDS and QUARREL", x.partner(2, 0), 23);
        EDGE.dueRow(x, 3, 2, 25, 2);
        EDGE.says(18, "if each of the others in turn held the other HALF (not oneself; h and s of what it holds but HALVES of that THING)");
        Edge.rule(x, "h*100+s*10+i");
        // To one who holds the first HALF, the other one, neither.
        x.partner(0, 0);
        EDGE.dueRow(x, 1, 1, 110, 110);
        x.partner(1, 0);
        EDGE.dueRow(x, 1, 1, 110, 110);
        x.partner(0, 1);
        EDGE.dueRow(x, 0, 0, 1, 1);
        x.partner(0, 2);
        EDGE.dueRow(x, 0, 0, 112, 112);
        EDGE.due("nothing changes", Edge.thing(x, 0, 2), 0);
    }

    private static void partnersOfFew() {
        EDGE.says(18, "NONE: others, fewer than two such.");
        OnlyHalves x = four("o");
        x.partner(0, 0);
        for (int half : NO_HALF) {
            EDGE.refused(x, "partner(" + half + ", 0)", () -> x.partner(half, 0));
        }
        for (int person : NOBODY) {
            EDGE.refused(x, "partner(0, " + person + ")", () -> x.partner(0, person));
        }
        OnlyHalves two = Edge.with("o", "1;2;t0-1*1,1");
        EDGE.refused(two, "partner(0, 0) of one other", () -> two.partner(0, 0));
        Edge.market(two, "3");
        EDGE.due("partner(0, 0) of two others", two.partner(0, 0), 1);
        EDGE.dueRow(two, 2, 1, 2, 1);
        OnlyHalves none = Edge.with("", "1;2;3");
        EDGE.refused(none, "partner(0, 0) of no THING", () -> none.partner(0, 0));
    }

    private static void theVowHolds() {
        EDGE.says(0, "THE VOW: not by the same one.");
        OnlyHalves x = Edge.with("c+i*7-h*3", EIGHT, FIVE_THINGS, FIVE_THINGS);
        for (int round = 0; round < 40; round++) {
            x.run(2, 3);
            for (int one = 0; one < 20; one++) {
                x.swap(one, (one * 7 + round) % 20);
                x.sell(one, (one + round) % 8);
            }
            for (int thing = 0; thing < 10; thing++) {
                EDGE.due("like ones", Edge.thing(x, thing, 2) == Edge.thing(x, thing, 3), false);
            }
        }
    }
}
