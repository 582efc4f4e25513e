/** The edges of swaps and of an estate: promises 30 to 37, and what the terms tell of them. */
public final class EdgesSwapsTest {
    private static final Edge EDGE = new Edge();
    private static final String EIGHT = "1;2;3;4;5;6;7;8";
    private static final String FIVE_THINGS = "t0-1*1,0;t0-1*2,1;t0-1*3,2;t0-1*4,3;t0-1*5,4";
    private static final int[] NO_HALF = {-1, 4, 5, 20, 99, Integer.MIN_VALUE, Integer.MAX_VALUE};
    private static final int[] NOBODY = {-1, 8, 9, Integer.MIN_VALUE, Integer.MAX_VALUE};

    public static void main(String[] args) {
        mayOfUnlikeThings();
        mayByTheVow();
        mayAndIsGood();
        mayTellsWorth();
        mayOfNone();
        swapIsMade();
        swapThatMayNot();
        goodOnes();
        goodOfNone();
        restsTheLeast();
        restsOfSoMany();
        friendsOfNone();
        friendsByTheFewest();
        friendsOfTooMany();
        statesOfNone();
        statesThatRest();
        statesOfTooMany();
        estateOfNothing();
        estateByTheBestOrder();
        estateByTheFewest();
        estateToTheFirst();
        estateOfTen();
        estateOfTooMany();
        estateWithCoin();
        greedyTheDearest();
        greedyOfEqualOnes();
        greedyOfNone();
        EDGE.end(30, 37);
    }

    /** Four people; THING 0 of 0 and 1, THING 1 of 2 and 3. */
    private static OnlyHalves four(String rule, String more) {
        return Edge.with(rule, "1;2;3;4;t0-1*10,1;t2-3*10,1" + more);
    }

    // ---- maySwap, swap

    private static void mayOfUnlikeThings() {
        EDGE.says(0, "A SWAP of two HALVES of unlike THINGS held by unlike people");
        OnlyHalves x = four("", ";t0-2*10,1");
        EDGE.due("one THING", x.maySwap(0, 1), 0);
        EDGE.due("one THING", x.maySwap(3, 2), 0);
        EDGE.due("one who holds both", x.maySwap(0, 4), 0);
        EDGE.due("one who holds both", x.maySwap(5, 2), 0);
        EDGE.due("unlike ones", x.maySwap(0, 2), 1);
        EDGE.due("unlike ones", x.maySwap(3, 1), 1);
    }

    private static void mayByTheVow() {
        EDGE.says(0, "It may, if THE VOW holds then.");
        OnlyHalves x = four("", ";t0-2*10,1");
        EDGE.due("0 would hold both of THING 2", x.maySwap(0, 5), 0);
        EDGE.due("told the other way round", x.maySwap(5, 0), 0);
        EDGE.due("2 would hold both of THING 2", x.maySwap(2, 4), 0);
        EDGE.due("2 would hold both of THING 1", x.maySwap(3, 5), 0);
        EDGE.due("0 would hold both of THING 0", x.maySwap(1, 4), 0);
        EDGE.due("none would", x.maySwap(1, 5), 1);
        EDGE.due("none would", x.maySwap(3, 4), 1);
        EDGE.due("swap by THE VOW", x.swap(1, 4), -2);
    }

    private static void mayAndIsGood() {
        EDGE.says(0, "is above WORTH of what one gives, as they are now, for both");
        // By f: 0 and 2, 1 and 3 are FRIENDS, so HALF 0 for HALF 3 makes two THINGS of FRIENDS.
        OnlyHalves x = four("f", ";f0-2;f1-3");
        EDGE.due("both by 1", x.maySwap(0, 3), 2);
        EDGE.dueRow(x, 1, 1);
        Edge.rule(x, "f*(i<3)");
        EDGE.due("one by 1, the other one by 0", x.maySwap(0, 3), 1);
        EDGE.dueRow(x, 1, 0);
        EDGE.due("told the other way round", x.maySwap(3, 0), 1);
        EDGE.dueRow(x, 0, 1);
        Edge.rule(x, "5+f*((i=0)-(i=3))");
        EDGE.due("one by 1, the other one by -1", x.maySwap(0, 3), 1);
        EDGE.dueRow(x, 1, -1);
        Edge.rule(x, "5-f");
        EDGE.due("both by -1", x.maySwap(0, 3), 1);
        EDGE.dueRow(x, -1, -1);
        Edge.rule(x, "f*2-(i=3)*f");
        EDGE.due("by 2 and 1", x.maySwap(0, 3), 2);
        EDGE.dueRow(x, 2, 1);
        EDGE.due("told the other way round", x.maySwap(3, 0), 2);
        EDGE.dueRow(x, 1, 2);
        EDGE.due("which is told as good", x.good(), 2);
        Edge.rule(x, "f*(i<3)");
        EDGE.due("none is good for both", x.good(), 1);
        EDGE.dueRow(x, 102);
        Edge.rule(x, "f*9*(i=0)");
        EDGE.due("none is good for both", x.good(), 0);
        EDGE.due("rests", x.rests(100), 0);
    }

    private static void mayTellsWorth() {
        EDGE.says(30, "by how much more WORTH who holds the first has, who holds the other one (none for 0)");
        OnlyHalves x = Edge.with("v+i", "1;2;3;4;t0-1*10,1;t2-3*40,1");
        EDGE.due("maySwap(0, 2)", x.maySwap(0, 2), 1);
        EDGE.dueRow(x, 30, -30);
        EDGE.due("maySwap(2, 0)", x.maySwap(2, 0), 1);
        EDGE.dueRow(x, -30, 30);
        EDGE.due("maySwap(0, 1)", x.maySwap(0, 1), 0);
        EDGE.dueRow(x);
        // As things are held then: one holds another THING of the KIND, and the other HALF is another one's.
        Edge.rule(x, "o*10+s*3+h");
        Edge.market(x, "t0-1*7,1");
        EDGE.due("maySwap(0, 2)", x.maySwap(0, 2), 1);
        EDGE.dueRow(x, 30 + 3 + 1 - 10 - 3 - 1, 10 - 30);
        EDGE.due("nothing is made", x.count(3), 0);
        EDGE.due("thing(0, 2)", Edge.thing(x, 0, 2), 0);
    }

    private static void mayOfNone() {
        EDGE.says(30, "NONE: none such, like ones.");
        OnlyHalves x = four("", "");
        x.pair();
        for (int half = 0; half < 4; half++) {
            int h = half;
            EDGE.refused(x, "maySwap of like ones", () -> x.maySwap(h, h));
            EDGE.refused(x, "swap of like ones", () -> x.swap(h, h));
        }
        EDGE.says(31, "NONE as maySwap()");
        for (int wrong : NO_HALF) {
            EDGE.refused(x, "maySwap(0, " + wrong + ")", () -> x.maySwap(0, wrong));
            EDGE.refused(x, "maySwap(" + wrong + ", 0)", () -> x.maySwap(wrong, 0));
            EDGE.refused(x, "maySwap of like ones that are not there", () -> x.maySwap(wrong, wrong));
            EDGE.refused(x, "swap(0, " + wrong + ")", () -> x.swap(0, wrong));
            EDGE.refused(x, "swap(" + wrong + ", 0)", () -> x.swap(wrong, 0));
        }
        OnlyHalves none = new OnlyHalves();
        EDGE.refused(none, "maySwap(0, 1)", () -> none.maySwap(0, 1));
        EDGE.refused(none, "swap(0, 1)", () -> none.swap(0, 1));
    }

    private static void swapIsMade() {
        EDGE.says(31, "It is made: how many THINGS are TOGETHER then.");
        OnlyHalves x = four("", ";f0-2;f1-3;f0-3");
        EDGE.due("swap(0, 3)", x.swap(0, 3), 2);
        EDGE.due("thing(0, 2)", Edge.thing(x, 0, 2), 3);
        EDGE.due("thing(1, 3)", Edge.thing(x, 1, 3), 0);
        EDGE.due("swap(3, 0)", x.swap(3, 0), 0);
        EDGE.due("thing(0, 2)", Edge.thing(x, 0, 2), 0);
        EDGE.due("swap(1, 3)", x.swap(1, 3), 1);
        EDGE.due("COIN stays", x.count(5), 10);
        EDGE.dueRow(x);
        EDGE.says(0, "TOGETHER is a THING whose HALVES FRIENDS hold.");
        EDGE.due("count(2)", x.count(2), 1);
        x.between(0, 3, 2);
        EDGE.due("count(2) of a QUARREL", x.count(2), 0);
        OnlyHalves ten = Edge.with("", EIGHT, FIVE_THINGS, FIVE_THINGS);
        ten.between(0, 1, 1);
        EDGE.due("count(2) of ten", ten.count(2), 1023);
        ten.between(0, 1, 0);
        EDGE.due("count(2) of ten", ten.count(2), 0);
    }

    private static void swapThatMayNot() {
        EDGE.says(31, "-2: it may not");
        OnlyHalves x = four("", ";t0-2*10,1;f0-1");
        x.pair();
        int[][] pairs = {{0, 1}, {0, 4}, {0, 5}, {5, 0}, {2, 4}, {3, 5}, {1, 4}, {2, 3}, {2, 5}};
        for (int[] pair : pairs) {
            EDGE.stays(x, "swap(" + pair[0] + ", " + pair[1] + ")", -2, () -> x.swap(pair[0], pair[1]));
        }
    }

    // ---- good, rests

    private static void goodOnes() {
        EDGE.says(32, "SWAPS that ARE GOOD now: how many; the ROW: the least as it is told (none without).");
        OnlyHalves x = four("f*9", ";f0-2;f1-3");
        EDGE.due("good()", x.good(), 2);
        EDGE.dueRow(x, 3);
        OnlyHalves one = four("f*9*(i=0)+(i=3)*(5-o)", ";f0-2");
        EDGE.due("good() of one", one.good(), 1);
        EDGE.dueRow(one, 3);
        EDGE.says(0, "a SWAP as 100 times the lesser HALF, and the other one");
        // As above, with the other HALVES; then of the last THINGS.
        x = Edge.with("f*9*(i=0)+(i=3)*(5-o)", "1;2;3;4;t1-0*10,1;t3-2*10,1;f0-2");
        EDGE.due("good()", x.good(), 1);
        EDGE.dueRow(x, 102);
        x = Edge.with("f", "1;2;3;4", FIVE_THINGS, "t0-1*1,1;t0-1*1,1;t0-1*1,1;t0-1*1,1;t2-3*1,1", "f0-2;f1-3;q0-1");
        EDGE.due("good()", x.good(), 18);
        EDGE.dueRow(x, 19);
        x.rests(1);
        EDGE.due("thing(9, 3)", Edge.thing(x, 9, 3), 0);
        x = Edge.with("f*(k=9)", "1;2;3;4", FIVE_THINGS, "t0-1*1,1;t0-1*1,1;t0-1*1,1;t0-1*1,9;t2-3*1,9", "f0-2;f1-3;q0-1");
        EDGE.due("good()", x.good(), 2);
        EDGE.dueRow(x, 1619);
        EDGE.due("rests(1)", x.rests(1), 1);
        EDGE.due("thing(8, 2)", Edge.thing(x, 8, 2), 3);
        EDGE.due("thing(9, 3)", Edge.thing(x, 9, 3), 0);
    }

    private static void goodOfNone() {
        EDGE.says(32, "(none without)");
        OnlyHalves x = four("", "");
        x.pair();
        EDGE.due("good()", x.good(), 0);
        EDGE.dueRow(x);
        EDGE.due("good() of nobody", new OnlyHalves().good(), 0);
        OnlyHalves one = Edge.with("f", "1;2;3;t1-2*1,1;f0-1;f0-2");
        EDGE.due("good() of one THING", one.good(), 0);
        EDGE.dueRow(one);
        EDGE.due("rests(100) of one THING", one.rests(100), 0);
        EDGE.dueRow(one, 1, 0);
        EDGE.due("states() of one THING", one.states(), 1);
        EDGE.dueRow(one, 1, 1);
    }

    private static void restsTheLeast() {
        EDGE.says(33, "The least SWAPS that ARE GOOD, one behind the other");
        OnlyHalves x = four("f*9", ";t0-1*5,5;t2-3*5,5;f0-2;f1-3");
        OnlyHalves y = four("f*9", ";t0-1*5,5;t2-3*5,5;f0-2;f1-3");
        int made = 0;
        while (made < 100 && x.good() > 0) {
            int swap = Edge.row(x, 0);
            x.swap(swap / 100, swap % 100);
            made++;
        }
        EDGE.due("more than one", made > 1, true);
        EDGE.due("rests(100)", y.rests(100), made);
        EDGE.dueRow(y, 1, Integer.bitCount(x.count(2)));
        for (int person = 0; person < 4; person++) {
            EDGE.due("HALVES", Edge.of(y, person, 1), Edge.of(x, person, 1));
        }
        EDGE.due("count(3)", y.count(3), made);
        EDGE.says(33, "the ROW: 1 if none IS GOOD then, how many THINGS are TOGETHER");
        OnlyHalves z = four("f*9", ";t0-1*5,5;t2-3*5,5;f0-2;f1-3");
        EDGE.due("rests(1)", z.rests(1), 1);
        EDGE.dueRow(z, 0, 2);
        EDGE.due("rests(1)", z.rests(1), 1);
        EDGE.dueRow(z, 1, 4);
    }

    private static void restsOfSoMany() {
        EDGE.says(33, "at most n (0 .. 100)");
        OnlyHalves x = four("f*9", ";f0-2;f1-3");
        EDGE.due("rests(0)", x.rests(0), 0);
        EDGE.dueRow(x, 0, 0);
        EDGE.due("rests(100)", x.rests(100), 1);
        EDGE.dueRow(x, 1, 2);
        EDGE.due("rests(0)", x.rests(0), 0);
        EDGE.dueRow(x, 1, 2);
        EDGE.due("rests(100) of nobody", new OnlyHalves().rests(100), 0);
        // 0 and 1 want to share with FRIENDS, 2 and 3 with others: a SWAP IS GOOD ever again.
        OnlyHalves ring = Edge.with("9+(i<2)*f*9-(i>1)*f*9", "1;2;3;4;t2-0*1,0;t1-3*1,1;f0-3;f1-2");
        EDGE.due("rests(100)", ring.rests(100), 100);
        EDGE.due("the first of the ROW", Edge.row(ring, 0), 0);
        EDGE.due("count(3)", ring.count(3), 30);
        EDGE.due("rests(99)", ring.rests(99), 99);
        EDGE.due("rests(1)", ring.rests(1), 1);
        EDGE.says(33, "NONE: another n.");
        for (int n : new int[] {-1, 101, Integer.MIN_VALUE, Integer.MAX_VALUE}) {
            EDGE.refused(x, "rests(" + n + ")", () -> x.rests(n));
        }
    }

    // ---- friends, states

    private static void friendsOfNone() {
        EDGE.says(34, "after which as many THINGS are TOGETHER as ever can be: how many");
        OnlyHalves none = new OnlyHalves();
        EDGE.due("friends() of nobody", none.friends(), 0);
        EDGE.dueRow(none, 0);
        OnlyHalves x = four("", "");
        EDGE.due("friends() of no FRIENDS", x.friends(), 0);
        EDGE.dueRow(x, 0);
        OnlyHalves done = Edge.with("", "1;2;t0-1*1,1;t1-0*1,1;f0-1");
        EDGE.due("friends() when all are", done.friends(), 0);
        EDGE.dueRow(done, 2);
        OnlyHalves stuck = Edge.with("", "1;2;3;t0-1*1,1;f0-2");
        EDGE.due("friends() that can't be", stuck.friends(), 0);
        EDGE.dueRow(stuck, 0);
    }

    private static void friendsByTheFewest() {
        EDGE.says(34, "the ROW: how many THINGS, then the SWAPS (10 at most): of as few the least row");
        OnlyHalves x = four("", ";f0-2;f1-3");
        EDGE.due("friends()", x.friends(), 1);
        EDGE.dueRow(x, 2, 3);
        EDGE.due("nothing is made", Edge.thing(x, 0, 2), 0);
        EDGE.due("nothing is kept", x.count(3), 0);
        x = four("", ";f1-2");
        EDGE.due("friends() of one at most", x.friends(), 1);
        EDGE.dueRow(x, 1, 2);
        x = four("", ";f0-1;f0-2;f1-3");
        EDGE.due("more than there are", x.friends(), 1);
        EDGE.dueRow(x, 2, 3);
        // A first SWAP of two must bring one THING to FRIENDS: HALF 0 for HALF 3, not HALF 0 for HALF 2.
        x = Edge.with("", "1;2;3;4;5;6;t0-1*1,1;t2-3*1,1;t4-5*1,1;f0-2;f1-4;f3-5");
        EDGE.due("friends() by two", x.friends(), 2);
        EDGE.dueRow(x, 3, 3, 4);
        x = Edge.with("", "1;2;3;4;5;6;t0-1*1,1;t2-3*1,1;t4-5*1,1;f0-1;f2-4;f3-5");
        EDGE.due("friends() of the last two THINGS", x.friends(), 1);
        EDGE.dueRow(x, 3, 205);
        x.between(2, 4, 0);
        x.between(3, 5, 0);
        EDGE.due("friends() of fewer than ahead of it", x.friends(), 0);
        EDGE.dueRow(x, 1);
        EDGE.says(34, "(that may be)");
        // HALF 1 for HALF 5 would bring 0 and 2 together, but 1 holds the other HALF of THING 2.
        x = Edge.with("", "1;2;3;t0-1*1,1;t0-1*1,1;t1-2*1,1;f0-2");
        EDGE.due("friends() against THE VOW", x.friends(), 0);
        EDGE.dueRow(x, 0);
    }

    private static void friendsOfTooMany() {
        EDGE.says(34, "-3.");
        OnlyHalves near = Edge.with("", "1;2;3;t2-0*1,1;t2-1*1,1;t1-2*1,1;t0-1*1,1;t0-2*1,1;t0-1*1,1");
        EDGE.due("2880 STATES", near.friends(), 0);
        OnlyHalves x = Edge.with("", EIGHT, "t5-2*1,1;t0-4*1,1;t4-0*1,1;t2-3*1,1");
        x.pair();
        EDGE.stays(x, "3264 STATES", -3, x::friends);
        EDGE.stays(x, "3264 STATES", -3, x::states);
    }

    private static void statesOfNone() {
        EDGE.says(35, "How many STATES can come by SWAPS that may be");
        OnlyHalves none = new OnlyHalves();
        EDGE.due("states() of nobody", none.states(), 1);
        EDGE.dueRow(none, 1, 0);
        OnlyHalves one = Edge.with("", "1;2;3;t0-1*7,1");
        EDGE.due("states() of one THING", one.states(), 1);
        EDGE.dueRow(one, 1, 7);
        OnlyHalves two = Edge.with("", "1;2;t0-1*7,1;t1-0*9,1");
        EDGE.due("states() of two people", two.states(), 1);
        EDGE.dueRow(two, 1, 9);
        OnlyHalves x = four("", "");
        EDGE.due("states() of four people", x.states(), 24);
        EDGE.dueRow(x, 24, 20);
    }

    private static void statesThatRest() {
        EDGE.says(35, "in how many of them no SWAP IS GOOD, the most USES' VALUE of a DAY (day()) of any");
        OnlyHalves x = four("f*9", ";f0-2;f1-3;q0-3");
        EDGE.due("states()", x.states(), 24);
        // FRIENDS hold both THINGS in 8 ways; in the 16 others a SWAP is good for two of them.
        EDGE.dueRow(x, 8, 20);
        EDGE.due("nothing is made", Edge.thing(x, 0, 2), 0);
        EDGE.due("nothing is kept", x.count(3), 0);
        x = Edge.with("", "1;2;3;t0-1*50,1;t0-2*60,1");
        EDGE.due("states() of three", x.states(), 2);
        EDGE.dueRow(x, 2, 60);
        x.between(1, 2, 2);
        EDGE.due("states() of three", x.states(), 2);
        EDGE.dueRow(x, 2, 60);
        x.between(0, 1, 2);
        x.between(0, 2, 2);
        x.states();
        EDGE.dueRow(x, 2, 0);
        EDGE.says(0, "(who holds which HALF; where it is so told COIN, too)");
        x = Edge.with("", "1;2;3;4;t0-1*50,1;t2-3*60,1;q0-1;q2-3");
        EDGE.due("most of any, not of now", x.states(), 24);
        EDGE.dueRow(x, 24, 110);
        EDGE.due("day() now", x.day(), 0);
    }

    private static void statesOfTooMany() {
        EDGE.says(0, "more than 3000: -3");
        OnlyHalves near = Edge.with("", "1;2;3;t2-0*1,1;t2-1*1,1;t1-2*1,1;t0-1*1,1;t0-2*1,1;t0-1*1,1");
        EDGE.due("2880 STATES", near.states(), 2880);
        EDGE.dueRow(near, 2880, 1);
        EDGE.due("2880 STATES again", near.states(), 2880);
        OnlyHalves x = Edge.with("", EIGHT, FIVE_THINGS, "t2-3*1,1;t4-5*1,1;t6-7*1,1");
        EDGE.stays(x, "a great many STATES", -3, x::states);
        OnlyHalves same = Edge.with("", EIGHT, FIVE_THINGS, FIVE_THINGS);
        EDGE.due("ten THINGS of the same two", same.states(), 1);
    }

    // ---- an estate

    private static void estateOfNothing() {
        EDGE.says(36, "the most it can get: it");
        OnlyHalves x = Edge.with("i", EIGHT, "t0-1*9,0;t2-3*9,0");
        EDGE.due("estate(7), who holds nothing", x.estate(7), 0);
        EDGE.dueRow(x);
        EDGE.due("estate(3), whose BIDS are above", x.estate(3), 3);
        EDGE.dueRow(x, 34);
        Edge.rule(x, "");
        EDGE.due("estate(0) of no BID above", x.estate(0), 0);
        EDGE.dueRow(x);
        EDGE.says(36, "NONE: none such.");
        for (int person : NOBODY) {
            EDGE.refused(x, "estate(" + person + ")", () -> x.estate(person));
            EDGE.refused(x, "greedy(" + person + ")", () -> x.greedy(person));
        }
        OnlyHalves none = new OnlyHalves();
        EDGE.refused(none, "estate(0)", () -> none.estate(0));
        EDGE.says(37, "NONE: none such.");
        EDGE.refused(none, "greedy(0)", () -> none.greedy(0));
    }

    private static void estateByTheBestOrder() {
        EDGE.says(36, "each SALE that CAN BE (with COIN as it is then");
        // Worth is half of COIN: who has sold the dearer HALF first asks too much for the other one.
        OnlyHalves x = Edge.with("c/2", "0;30;12;t0-1*9,0;t0-2*9,0");
        x.law(0, 2);
        EDGE.due("estate(0)", x.estate(0), 6 + 15);
        EDGE.dueRow(x, 2, 21);
        EDGE.due("nothing is made", Edge.of(x, 0, 0), 0);
        EDGE.due("nothing is kept", x.count(3), 0);
        // The same of people whose COIN stands elsewhere.
        OnlyHalves high = Edge.with("c/2", "0;0;0;0;0;0;30;12;t5-6*9,0;t5-7*9,0");
        high.law(0, 2);
        EDGE.due("estate(5)", high.estate(5), 6 + 15);
        EDGE.dueRow(high, 7, 26);
        EDGE.says(36, "by PRICES of THE LAW (FEE too)");
        x.law(1, 6);
        EDGE.due("with a FEE of 6", x.estate(0), 21);
        x.law(1, 7);
        EDGE.due("with a FEE of 7", x.estate(0), 15);
        EDGE.dueRow(x, 21);
        x.law(1, 15);
        EDGE.due("with a FEE of 15", x.estate(0), 15);
        x.law(1, 16);
        EDGE.due("with a FEE of 16", x.estate(0), 0);
        EDGE.dueRow(x);
        x.law(1, 0);
        x.law(0, 1);
        EDGE.due("half of ASKED and BID", x.estate(0), 3 + 8);
        EDGE.dueRow(x, 2, 21);
        x.law(0, 0);
        EDGE.due("ASKED", x.estate(0), 0);
        EDGE.dueRow(x, 2, 21);
    }

    private static void estateByTheFewest() {
        EDGE.says(36, "One's HALVES are sold by it, all that can be, one by one");
        // ASKED is 0, so it gets nothing, but all that can be is sold.
        OnlyHalves x = Edge.with("i", "5;5;5;5;t0-1*9,0;t0-2*9,0");
        EDGE.due("estate(0)", x.estate(0), 0);
        EDGE.dueRow(x, 2, 21);
        EDGE.says(36, "of as much the fewest, then the least row");
        x.law(0, 2);
        EDGE.due("estate(0)", x.estate(0), 5);
        EDGE.dueRow(x, 2, 23);
        // 3 can pay one FEE alone: what is sold to it first shuts out the other SALE.
        OnlyHalves y = Edge.with("i", "5;0;5;5;t0-1*9,0;t0-2*9,0");
        y.law(1, 5);
        EDGE.due("estate(0)", y.estate(0), 0);
        EDGE.dueRow(y, 3);
        // What an estate was found to be of ahead of it does not matter.
        OnlyHalves again = Edge.with("(i>0)*(i<3)", "5;0;5;5;t0-1*9,0;t0-2*9,0");
        EDGE.due("estate(0) without a FEE", again.estate(0), 0);
        EDGE.dueRow(again, 2, 21);
        again.law(1, 5);
        Edge.rule(again, "i");
        EDGE.due("estate(0) with one", again.estate(0), 0);
        EDGE.dueRow(again, 3);
        EDGE.says(0, "Rows of numbers are compared from the first on.");
        // Equal PRICES to all: the least row.
        OnlyHalves z = Edge.with("(i>0)*4", "5;9;9;9;t1-0*9,0;t2-0*9,0");
        z.law(0, 2);
        EDGE.due("estate(0)", z.estate(0), 8);
        EDGE.dueRow(z, 12, 31);
        // COIN that is lost above 999 is a PRICE all the same.
        OnlyHalves rich = Edge.with("(i=2)*9", "995;5;20;t0-1*9,0");
        rich.law(0, 2);
        EDGE.due("estate(0)", rich.estate(0), 9);
        EDGE.due("greedy(0)", rich.greedy(0), 9);
    }

    private static void estateToTheFirst() {
        EDGE.says(36, "to buyers");
        // The less the number, the more it pays; nobody is ahead of 0 or behind the last one.
        OnlyHalves x = Edge.with("9-i", "20;20;20;20;t2-1*9,0;t1-2*9,0");
        x.law(0, 2);
        EDGE.due("estate(2)", x.estate(2), 18);
        EDGE.dueRow(x, 0, 30);
        EDGE.due("greedy(2)", x.greedy(2), 18);
        EDGE.dueRow(x, 2, 0);
        EDGE.due("greedy(0), who holds nothing", x.greedy(0), 0);
        EDGE.dueRow(x, 0, 0);
        OnlyHalves two = Edge.with("i", "9;9;t0-1*1,1");
        EDGE.due("estate(0) of nobody else", two.estate(0), 0);
        EDGE.dueRow(two);
        EDGE.due("greedy(0) of nobody else", two.greedy(0), 0);
        EDGE.dueRow(two, 0, 1);
    }

    private static OnlyHalves tenToSell() {
        OnlyHalves x = Edge.with("(i=2)*(v+1)", "0;0;999", FIVE_THINGS, FIVE_THINGS);
        x.law(0, 2);
        return x;
    }

    private static void estateOfTen() {
        EDGE.says(36, "the ROW: the SALES (10 at most)");
        OnlyHalves x = tenToSell();
        EDGE.due("estate(0) of ten", x.estate(0), 2 * (2 + 3 + 4 + 5 + 6));
        EDGE.dueRow(x, 2, 22, 42, 62, 82, 102, 122, 142, 162, 182);
        EDGE.due("estate(1) of ten", x.estate(1), 40);
        EDGE.dueRow(x, 12, 32, 52, 72, 92, 112, 132, 152, 172, 192);
        EDGE.due("greedy(1) of ten", x.greedy(1), 40);
        EDGE.dueRow(x, 10, 0);
    }

    private static void estateOfTooMany() {
        EDGE.says(0, "more than 3000: -3");
        // A THING of KIND k goes to 1 .. k - 1 or stays: 5 times 5 times 5 times 4 times 6 STATES.
        String rule = "(i>0)*(i<k)+(k<1)*(i=1)*(h>4)";
        OnlyHalves x = Edge.with(rule, EIGHT, "t0-7*1,5;t0-7*1,5;t0-7*1,5;t0-7*1,4;t0-7*1,6");
        EDGE.due("3000 STATES", x.estate(0), 0);
        EDGE.dueRow(x, 1, 21, 41, 61, 81);
        // One more can be sold only when 1 holds all the others: one STATE more.
        Edge.market(x, "t0-7*1,0");
        EDGE.stays(x, "3001 STATES", -3, () -> x.estate(0));
        EDGE.due("estate(7)", x.estate(7), -3);
        OnlyHalves last = Edge.with(rule, EIGHT, "t0-7*1,4;t0-7*1,5;t0-7*1,5;t0-7*1,5;t0-7*1,7");
        EDGE.stays(last, "3500 STATES", -3, () -> last.estate(0));
        last.sheet(2, 5, 1, 0);
        Edge.rule(last, "(i>0)*(i<3)*7");
        EDGE.due("243 STATES, behind too many", last.estate(0), 0);
        EDGE.dueRow(last, 1, 21, 41, 61, 81);
        Edge.rule(last, rule);
        EDGE.due("greedy(0) all the same", last.greedy(0), 0);
        EDGE.dueRow(last, 5, 0);
        EDGE.says(0, "NONE is asked ahead of other answers below 0");
        EDGE.refused(last, "estate(8)", () -> last.estate(8));
    }

    private static void estateWithCoin() {
        EDGE.says(36, "STATES with COIN");
        // The same HALVES can be held with unlike COIN, by what was paid first.
        OnlyHalves x = Edge.with("c/2", "0;40;24;12;t0-1*9,0;t0-2*9,0;t0-3*9,0");
        x.law(0, 2);
        EDGE.due("estate(0)", x.estate(0), bestOrder(x, 0, 0));
        OnlyHalves y = Edge.with("c/3+i", "9;0;0;0;0;50;70;90;t0-5*9,0;t0-6*9,0;t0-7*9,0");
        y.law(0, 1);
        EDGE.due("estate(0)", y.estate(0), bestOrder(y, 0, 0));
        OnlyHalves z = Edge.with("(c-h*7)/2", "3;0;0;0;0;50;70;90;t4-5*9,0;t4-6*9,0;t7-4*9,0;t1-4*9,0");
        z.law(0, 2);
        z.law(1, 3);
        EDGE.due("estate(4)", z.estate(4), bestOrder(z, 4, 0));
    }

    /** The most that any order of SALES brings, by making and undoing each. */
    private static int bestOrder(OnlyHalves x, int seller, int depth) {
        int most = 0;
        for (int half = 0; half < 2 * x.count(1) && depth < 5; half++) {
            for (int buyer = 0; buyer < x.count(0); buyer++) {
                if ((Edge.of(x, seller, 1) >>> half & 1) == 1 && x.can(half, buyer) == 1) {
                    int price = x.sell(half, buyer);
                    most = Math.max(most, price + bestOrder(x, seller, depth + 1));
                    x.undo();
                }
            }
        }
        return most;
    }

    private static void greedyTheDearest() {
        EDGE.says(37, "if it sells each time what brings it the most at once");
        OnlyHalves x = Edge.with("c/2", "0;30;12;t0-1*9,0;t0-2*9,0");
        x.law(0, 2);
        EDGE.due("greedy(0)", x.greedy(0), 15);
        EDGE.says(37, "the ROW: how many SALES, how many HALVES are left");
        EDGE.dueRow(x, 1, 1);
        EDGE.says(37, "Nothing changes.");
        EDGE.stays(x, "greedy(0) with the ROW told already", 15, () -> x.greedy(0));
        OnlyHalves two = Edge.with("i*5", "5;50;50;50;t0-1*9,0;t0-2*9,0;t0-3*9,0");
        two.law(0, 2);
        // 3 pays 15 twice; for the last one, whose other HALF it holds, 2 pays 10.
        EDGE.due("greedy(0)", two.greedy(0), 15 + 15 + 10);
        EDGE.dueRow(two, 3, 0);
        two.law(0, 0);
        EDGE.due("greedy(0) by ASKED", two.greedy(0), 0);
        EDGE.dueRow(two, 3, 0);
        two.law(1, 51);
        EDGE.due("greedy(0) of too high a FEE", two.greedy(0), 0);
        EDGE.dueRow(two, 0, 3);
    }

    private static void greedyOfEqualOnes() {
        EDGE.says(37, "of equal ones the least as it is told");
        // Equal PRICES: HALF 0 goes to 2, whose COIN is out then; so 3 has HALF 2.
        OnlyHalves x = Edge.with("(i>0)*7", "0;9;9;9;t0-1*9,0;t0-1*9,0;t0-2*9,0");
        x.law(0, 2);
        EDGE.due("greedy(0)", x.greedy(0), 21);
        EDGE.dueRow(x, 3, 0);
        // HALF 0 goes to 2, not to 3, and 2 has no COIN for HALF 2 then; the best order brings more.
        OnlyHalves y = Edge.with("(i>0)*7", "0;0;7;7;t0-1*9,0;t0-3*9,0");
        y.law(0, 2);
        EDGE.due("greedy(0)", y.greedy(0), 7);
        EDGE.dueRow(y, 1, 1);
        EDGE.due("estate(0)", y.estate(0), 14);
        EDGE.dueRow(y, 3, 22);
    }

    private static void greedyOfNone() {
        EDGE.says(37, "till none CAN BE: it");
        OnlyHalves x = Edge.with("i", EIGHT, "t0-1*9,0;t2-3*9,0");
        EDGE.due("greedy(7), who holds nothing", x.greedy(7), 0);
        EDGE.dueRow(x, 0, 0);
        Edge.rule(x, "");
        EDGE.due("greedy(0) of no BID above", x.greedy(0), 0);
        EDGE.dueRow(x, 0, 1);
        EDGE.due("a SALE that brings 0 is one", freeSale().greedy(0), 0);
        OnlyHalves y = freeSale();
        y.greedy(0);
        EDGE.dueRow(y, 1, 0);
    }

    private static OnlyHalves freeSale() {
        return Edge.with("i", "5;5;5;t0-1*9,0");
    }
}
