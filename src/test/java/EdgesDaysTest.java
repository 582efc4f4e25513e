/** The edges of days: promises 19 to 29, and what the terms tell of uses and searches. */
public final class EdgesDaysTest {
    private static final Edge EDGE = new Edge();
    private static final String EIGHT = "1;2;3;4;5;6;7;8";
    private static final String FIVE_THINGS = "t0-1*1,0;t0-1*2,1;t0-1*3,2;t0-1*4,3;t0-1*5,4";
    private static final int[] WRONG = {-1, 4, 8, 10, Integer.MIN_VALUE, Integer.MAX_VALUE};

    public static void main(String[] args) {
        dayOfNone();
        daysMost();
        dayOfEqualOnes();
        dayInQuarrel();
        dayOfThoseWhoTookPart();
        quarrels();
        quarrelsOfOthers();
        barsOfThings();
        withoutOne();
        pairs();
        pairsOfFew();
        wealths();
        richests();
        richestOfEqualOnes();
        useIsShared();
        useThatCannotBe();
        useOnceADay();
        daysGoBy();
        daysOfThoseWhoTookPart();
        daysOfSoMany();
        feastThatCanBe();
        feastThatCannotBe();
        feastOfWrongBits();
        prepareNothing();
        prepareTheFewest();
        prepareThatCannotBe();
        prepareTooMany();
        prepareOfWrongBits();
        EDGE.end(19, 29);
    }

    /** A ring of four people and four THINGS, of 10, 25, 16, 9. */
    private static OnlyHalves ring() {
        return Edge.with("", "1;1;1;1;t0-1*10,1;t1-2*25,1;t2-3*16,1;t0-3*9,1");
    }

    // ---- day

    private static void dayOfNone() {
        EDGE.says(19, "the sum of VALUES; the ROW: THINGS used (bits)");
        OnlyHalves x = new OnlyHalves();
        EDGE.due("day() of nobody", x.day(), 0);
        EDGE.dueRow(x, 0);
        x = Edge.with("", "1;2;3");
        EDGE.due("day() of no THINGS", x.day(), 0);
        EDGE.dueRow(x, 0);
        x = Edge.with("", "1;2;t0-1*99,1");
        EDGE.due("day() of one", x.day(), 99);
        EDGE.dueRow(x, 1);
        x.between(0, 1, 2);
        EDGE.due("day() of a QUARREL", x.day(), 0);
        EDGE.dueRow(x, 0);
    }

    private static void daysMost() {
        EDGE.says(19, "The most that can be earned by USES of one DAY");
        OnlyHalves x = ring();
        EDGE.due("day()", x.day(), 34);
        EDGE.dueRow(x, 10);
        x.sheet(2, 4, 20, -1);
        EDGE.due("day()", x.day(), 38);
        EDGE.dueRow(x, 5);
        // Two small ones bring more than a great one between them.
        x = Edge.with("", "1;1;1;1;t0-1*50,1;t1-2*99,1;t2-3*50,1");
        EDGE.due("day()", x.day(), 100);
        EDGE.dueRow(x, 5);
        x.sheet(2, 3, 49, 50);
        EDGE.due("day()", x.day(), 148);
        EDGE.dueRow(x, 5);
        x = Edge.with("", EIGHT, "t0-1*99,0;t2-3*99,1;t4-5*99,2;t6-7*99,3", FIVE_THINGS);
        EDGE.due("day() of four", x.day(), 4 * 99);
        EDGE.dueRow(x, 15);
        EDGE.says(0, "each of PEOPLE takes part in one USE a DAY at most");
        x = Edge.with("", EIGHT, FIVE_THINGS, FIVE_THINGS);
        EDGE.due("day() of ten of the same two", x.day(), 5);
        EDGE.dueRow(x, 16);
    }

    private static void dayOfEqualOnes() {
        EDGE.says(19, "of as much the least as a number");
        OnlyHalves x = ring();
        x.sheet(2, 4, 10, 0);
        EDGE.due("day()", x.day(), 20);
        EDGE.dueRow(x, 5);
        x = Edge.with("", "1;1;1;t0-1*7,1;t1-2*7,1;t2-0*7,1");
        EDGE.due("day()", x.day(), 7);
        EDGE.dueRow(x, 1);
        // 8 alone brings as much as 1 and 2 together, and 3 is less.
        x = Edge.with("", "1;1;1;1;t0-1*3,1;t2-3*4,1;t1-2*7,1");
        EDGE.due("day()", x.day(), 7);
        EDGE.dueRow(x, 3);
        x = Edge.with("", "1;1;1;1;t1-2*7,1;t0-1*3,1;t2-3*4,1");
        EDGE.due("day()", x.day(), 7);
        EDGE.dueRow(x, 1);
    }

    private static void dayInQuarrel() {
        EDGE.says(0, "who hold its HALVES, not in QUARREL");
        OnlyHalves x = ring();
        x.between(2, 1, 2);
        EDGE.due("day()", x.day(), 26);
        EDGE.dueRow(x, 5);
        x.between(2, 1, 1);
        EDGE.due("day() of FRIENDS", x.day(), 34);
        x.between(0, 2, 2);
        EDGE.due("day() of others in QUARREL", x.day(), 34);
    }

    private static void dayOfThoseWhoTookPart() {
        EDGE.says(19, "(Those who took part TODAY already do not matter.)");
        OnlyHalves x = ring();
        x.use(1);
        EDGE.due("day()", x.day(), 34);
        EDGE.dueRow(x, 10);
    }

    private static void quarrels() {
        EDGE.says(20, "By how much day() would be less, if two unlike ones, who are not, were in QUARREL.");
        OnlyHalves x = ring();
        EDGE.due("quarrel(1, 2)", x.quarrel(1, 2), 34 - 26);
        EDGE.due("quarrel(2, 1)", x.quarrel(2, 1), 8);
        EDGE.due("quarrel(0, 3)", x.quarrel(0, 3), 34 - 26);
        EDGE.due("quarrel(0, 1)", x.quarrel(0, 1), 0);
        EDGE.due("quarrel(0, 2)", x.quarrel(0, 2), 0);
        x.between(1, 2, 1);
        EDGE.due("FRIENDS", x.quarrel(1, 2), 8);
        EDGE.stays(x, "quarrel(1, 2)", 8, () -> x.quarrel(1, 2));
        OnlyHalves same = Edge.with("", "1;2;t0-1*9,1;t1-0*8,1");
        EDGE.due("all that they hold", same.quarrel(0, 1), 9);
    }

    private static void quarrelsOfOthers() {
        EDGE.says(20, "NONE: others, in QUARREL already.");
        OnlyHalves x = ring();
        x.day();
        x.between(1, 2, 2);
        EDGE.refused(x, "quarrel(1, 2)", () -> x.quarrel(1, 2));
        EDGE.refused(x, "quarrel(2, 1)", () -> x.quarrel(2, 1));
        EDGE.refused(x, "quarrel(0, 0)", () -> x.quarrel(0, 0));
        for (int wrong : WRONG) {
            EDGE.refused(x, "quarrel(0, " + wrong + ")", () -> x.quarrel(0, wrong));
            EDGE.refused(x, "quarrel(" + wrong + ", 0)", () -> x.quarrel(wrong, 0));
        }
    }

    private static void barsOfThings() {
        EDGE.says(21, "By how much day() would be less without a THING");
        OnlyHalves x = ring();
        x.pair();
        int[] want = {0, 8, 0, 8};
        for (int thing = 0; thing < 4; thing++) {
            int t = thing;
            EDGE.stays(x, "bars(" + thing + ")", want[thing], () -> x.bars(t));
        }
        x.sheet(2, 4, 30, 0);
        EDGE.due("bars(0)", x.bars(0), 0);
        x.sheet(2, 4, 30, -1);
        EDGE.due("bars(0)", x.bars(0), 2);
        EDGE.due("bars(1)", x.bars(1), 0);
        EDGE.due("bars(2)", x.bars(2), 2);
        EDGE.due("without(1)", x.without(1), 58 - 28);
        OnlyHalves ten = Edge.with("", EIGHT, FIVE_THINGS, FIVE_THINGS);
        EDGE.due("bars(9) of ten", ten.bars(9), 0);
        ten.sheet(2, 10, 1, 1);
        EDGE.due("bars(9) of ten", ten.bars(9), 1);
        EDGE.says(21, "NONE: none such.");
        for (int wrong : WRONG) {
            EDGE.refused(x, "bars(" + wrong + ")", () -> x.bars(wrong));
        }
        OnlyHalves none = new OnlyHalves();
        EDGE.refused(none, "bars(0)", () -> none.bars(0));
    }

    private static void withoutOne() {
        EDGE.says(22, "the ROW: THINGS used then (bits; of as much the least)");
        OnlyHalves x = ring();
        int[] less = {9, 18, 24, 9};
        int[] used = {2, 4, 1, 2};
        for (int person = 0; person < 4; person++) {
            EDGE.due("without(" + person + ")", x.without(person), less[person]);
            EDGE.dueRow(x, used[person]);
        }
        x.sheet(2, 4, 7, 0);
        EDGE.due("without(0)", x.without(0), 7);
        EDGE.dueRow(x, 2);
        OnlyHalves two = Edge.with("", "1;2;3;t0-1*9,1");
        EDGE.due("without(0) of the one THING", two.without(0), 9);
        EDGE.dueRow(two, 0);
        EDGE.due("without(2), who holds nothing", two.without(2), 0);
        EDGE.dueRow(two, 1);
        EDGE.says(22, "NONE: none such.");
        for (int wrong : WRONG) {
            EDGE.refused(x, "without(" + wrong + ")", () -> x.without(wrong));
        }
        OnlyHalves none = new OnlyHalves();
        EDGE.refused(none, "without(0)", () -> none.without(0));
    }

    // ---- pair, wealth, richest

    private static void pairs() {
        EDGE.says(23, "both (of as many the first pair, the lesser first), these THINGS (bits)");
        OnlyHalves x = Edge.with("", "1;2;3;4");
        EDGE.due("pair() of no THINGS", x.pair(), 0);
        EDGE.dueRow(x, 0, 1, 0);
        Edge.market(x, "t3-2*1,1");
        EDGE.due("pair()", x.pair(), 1);
        EDGE.dueRow(x, 2, 3, 1);
        Edge.market(x, "t3-1*1,1");
        EDGE.due("pair()", x.pair(), 1);
        EDGE.dueRow(x, 1, 3, 2);
        Edge.market(x, "t1-0*1,1;t2-3*1,1;t0-1*1,1");
        EDGE.due("pair()", x.pair(), 2);
        EDGE.dueRow(x, 0, 1, 4 + 16);
        OnlyHalves ten = Edge.with("", EIGHT, FIVE_THINGS, FIVE_THINGS);
        EDGE.due("pair() of ten", ten.pair(), 10);
        EDGE.dueRow(ten, 0, 1, 1023);
        OnlyHalves last = Edge.with("", EIGHT, "t7-6*1,1");
        EDGE.due("pair() of the last two", last.pair(), 1);
        EDGE.dueRow(last, 6, 7, 1);
    }

    private static void pairsOfFew() {
        EDGE.says(23, "-2: fewer than two PEOPLE.");
        OnlyHalves x = new OnlyHalves();
        EDGE.stays(x, "pair() of nobody", -2, x::pair);
        Edge.market(x, "1");
        EDGE.stays(x, "pair() of one", -2, x::pair);
        Edge.market(x, "1");
        EDGE.due("pair() of two", x.pair(), 0);
        EDGE.dueRow(x, 0, 1, 0);
    }

    private static void wealths() {
        EDGE.says(24, "COIN of one, and WORTH of all HALVES it holds, to it.");
        OnlyHalves x = Edge.with("v+o*100", "10;20;30;t0-1*5,1;t2-0*6,1;t1-2*7,1");
        x.pair();
        EDGE.stays(x, "wealth(0)", 10 + 105 + 206, () -> x.wealth(0));
        EDGE.due("wealth(1)", x.wealth(1), 20 + 5 + 207);
        EDGE.due("wealth(2)", x.wealth(2), 30 + 6 + 107);
        Edge.rule(x, "999");
        EDGE.due("wealth(0) of the greatest WORTH", x.wealth(0), 10 + 2 * 999);
        EDGE.due("wealth() of one who holds nothing", Edge.with("9", "0;1;2;t0-1*1,1").wealth(2), 2);
        OnlyHalves ten = Edge.with("999", "999;999", FIVE_THINGS, FIVE_THINGS);
        EDGE.due("wealth() of ten", ten.wealth(1), 11 * 999);
        EDGE.says(24, "NONE: none such.");
        for (int wrong : new int[] {-1, 3, 8, Integer.MIN_VALUE, Integer.MAX_VALUE}) {
            EDGE.refused(x, "wealth(" + wrong + ")", () -> x.wealth(wrong));
        }
        OnlyHalves none = new OnlyHalves();
        EDGE.refused(none, "wealth(0)", () -> none.wealth(0));
    }

    private static void richests() {
        EDGE.says(25, "the ROW: that, the least of any, the sum of all");
        OnlyHalves x = Edge.with("", "10;20;30;t0-1*5,1;t2-0*60,1");
        EDGE.due("richest()", x.richest(), 2);
        EDGE.dueRow(x, 90, 25, 75 + 25 + 90);
        x = Edge.with("", "7");
        EDGE.due("richest() of one", x.richest(), 0);
        EDGE.dueRow(x, 7, 7, 7);
        x = Edge.with("", "9;5;7");
        EDGE.due("richest()", x.richest(), 0);
        EDGE.dueRow(x, 9, 5, 21);
        x = Edge.with("", "0;0");
        EDGE.due("richest() of 0", x.richest(), 0);
        EDGE.dueRow(x, 0, 0, 0);
    }

    private static void richestOfEqualOnes() {
        EDGE.says(25, "of equal ones the first: it");
        OnlyHalves x = Edge.with("", "7;9;9;8;9");
        EDGE.due("richest()", x.richest(), 1);
        EDGE.dueRow(x, 9, 7, 42);
        EDGE.says(25, "-2: nobody.");
        OnlyHalves none = new OnlyHalves();
        EDGE.stays(none, "richest()", -2, none::richest);
    }

    // ---- use, days

    private static void useIsShared() {
        EDGE.says(0, "each has half of VALUE (cut; who holds the first HALF has what is over)");
        for (int value : new int[] {1, 2, 3, 98, 99}) {
            OnlyHalves x = Edge.with("", "5;6;7;t1-0*" + value + ",1");
            EDGE.says(26, "how much the first HALF's holder has of it");
            EDGE.due("use(0) of " + value, x.use(0), value - value / 2);
            EDGE.due("of(1, 0)", Edge.of(x, 1, 0), 6 + value - value / 2);
            EDGE.due("of(0, 0)", Edge.of(x, 0, 0), 5 + value / 2);
            EDGE.due("of(2, 0)", Edge.of(x, 2, 0), 7);
        }
        EDGE.says(0, "COIN above 999 is lost.");
        OnlyHalves x = Edge.with("", "995;996;t0-1*9,1");
        EDGE.due("use(0)", x.use(0), 5);
        EDGE.due("of(0, 0)", Edge.of(x, 0, 0), 999);
        EDGE.due("of(1, 0)", Edge.of(x, 1, 0), 999);
        OnlyHalves last = Edge.with("", "1;1;1;1;1;1;990;998;t7-6*40,1");
        EDGE.due("use(0)", last.use(0), 20);
        EDGE.due("of(6, 0)", Edge.of(last, 6, 0), 999);
        EDGE.due("of(7, 0)", Edge.of(last, 7, 0), 999);
        EDGE.due("TODAY stays", last.today(), 0);
    }

    private static void useThatCannotBe() {
        EDGE.says(26, "-2: they are in QUARREL; -3: one of them took part already; NONE: none such.");
        OnlyHalves x = ring();
        x.between(2, 3, 2);
        x.pair();
        EDGE.stays(x, "use(2)", -2, () -> x.use(2));
        x.use(0);
        EDGE.stays(x, "use(0)", -3, () -> x.use(0));
        EDGE.stays(x, "use(1), of the first one", -3, () -> x.use(1));
        EDGE.stays(x, "use(3), of the other one", -3, () -> x.use(3));
        EDGE.stays(x, "use(2)", -2, () -> x.use(2));
        x.between(0, 1, 2);
        EDGE.stays(x, "use(0) in QUARREL, who took part", -2, () -> x.use(0));
        for (int wrong : WRONG) {
            EDGE.refused(x, "use(" + wrong + ")", () -> x.use(wrong));
        }
        OnlyHalves none = new OnlyHalves();
        EDGE.refused(none, "use(0)", () -> none.use(0));
    }

    private static void useOnceADay() {
        EDGE.says(0, "each of PEOPLE takes part in one USE a DAY at most");
        OnlyHalves x = ring();
        EDGE.due("use(0)", x.use(0), 5);
        EDGE.due("use(2) of two others", x.use(2), 8);
        for (int person = 0; person < 4; person++) {
            EDGE.due("took part", Edge.of(x, person, 4), 1);
        }
        x.days(1);
        EDGE.due("use(0) a DAY later", x.use(0), 5);
        EDGE.due("they are HALVES of those who took part that count", x.swap(0, 4), 0);
        EDGE.due("use(0) of 2 and 1", x.use(0), -3);
    }

    private static void daysGoBy() {
        EDGE.says(27, "then TODAY is one more, and nobody took part: what was earned in all");
        OnlyHalves x = Edge.with("", "1;1;1;1;t0-1*11,1;t1-2*25,1;t2-3*17,1");
        EDGE.due("days(1)", x.days(1), 28);
        EDGE.due("today()", x.today(), 1);
        for (int person = 0; person < 4; person++) {
            EDGE.due("took part", Edge.of(x, person, 4), 0);
        }
        int[] coin = {7, 6, 10, 9};
        for (int person = 0; person < 4; person++) {
            EDGE.due("of(" + person + ", 0)", Edge.of(x, person, 0), coin[person]);
        }
        EDGE.dueRow(x);
        EDGE.due("days(3)", x.days(3), 84);
        EDGE.due("today()", x.today(), 4);
        EDGE.due("of(0, 0)", Edge.of(x, 0, 0), 7 + 18);
        OnlyHalves rich = Edge.with("", "900;995;t0-1*99,1");
        EDGE.due("days(100) of lost COIN", rich.days(100), 9900);
        EDGE.due("of(0, 0)", Edge.of(rich, 0, 0), 999);
        EDGE.due("of(1, 0)", Edge.of(rich, 1, 0), 999);
        OnlyHalves none = new OnlyHalves();
        EDGE.due("days(7) of nobody", none.days(7), 0);
        EDGE.due("today()", none.today(), 7);
    }

    private static void daysOfThoseWhoTookPart() {
        EDGE.says(27, "(on the first one also of those who took part TODAY already)");
        OnlyHalves x = Edge.with("", "1;1;t0-1*11,1");
        x.use(0);
        EDGE.due("days(1)", x.days(1), 11);
        EDGE.due("of(0, 0)", Edge.of(x, 0, 0), 1 + 6 + 6);
        EDGE.due("of(1, 0)", Edge.of(x, 1, 0), 1 + 5 + 5);
        EDGE.due("use(0)", x.use(0), 6);
    }

    private static void daysOfSoMany() {
        EDGE.says(27, "n DAYS (0 .. 100) go by");
        OnlyHalves x = Edge.with("", "1;1;t0-1*11,1");
        x.use(0);
        EDGE.due("days(0)", x.days(0), 0);
        EDGE.due("today()", x.today(), 0);
        EDGE.due("of(0, 4)", Edge.of(x, 0, 4), 1);
        EDGE.due("of(0, 0)", Edge.of(x, 0, 0), 7);
        EDGE.due("days(100)", x.days(100), 1100);
        EDGE.due("today()", x.today(), 100);
        EDGE.due("of(0, 0)", Edge.of(x, 0, 0), 7 + 600);
        EDGE.says(27, "NONE: another n.");
        x.use(0);
        for (int n : new int[] {-1, 101, Integer.MIN_VALUE, Integer.MAX_VALUE}) {
            EDGE.refused(x, "days(" + n + ")", () -> x.days(n));
        }
    }

    // ---- feast

    private static void feastThatCanBe() {
        EDGE.says(28, "whether all can be used on one DAY: 1 (the ROW stays)");
        OnlyHalves x = Edge.with("", "1;1;1;1;t0-1*11,1;t1-2*25,1;t2-3*17,1;t3-0*1,1");
        x.pair();
        for (int bits : new int[] {0, 1, 2, 4, 8, 5, 10}) {
            EDGE.stays(x, "feast(" + bits + ")", 1, () -> x.feast(bits));
        }
        x.use(0);
        EDGE.due("those who took part do not matter", x.feast(5), 1);
        OnlyHalves none = new OnlyHalves();
        EDGE.stays(none, "feast(0) of nobody", 1, () -> none.feast(0));
    }

    private static void feastThatCannotBe() {
        EDGE.says(28, "0: the ROW: the first of them whose holders are in QUARREL (NONE), "
                + "the first pair of which somebody holds HALVES of both (NONE, NONE)");
        OnlyHalves x = Edge.with("", "1;1;1;1;t0-1*11,1;t1-2*25,1;t2-3*17,1;t3-0*1,1;q0-3;q1-2");
        EDGE.due("one in QUARREL", x.feast(8), 0);
        EDGE.dueRow(x, 3, -1, -1);
        EDGE.due("two in QUARREL", x.feast(10), 0);
        EDGE.dueRow(x, 1, -1, -1);
        x.between(1, 2, 0);
        EDGE.due("a pair", x.feast(6), 0);
        EDGE.dueRow(x, -1, 1, 2);
        EDGE.due("pairs", x.feast(7), 0);
        EDGE.dueRow(x, -1, 0, 1);
        EDGE.due("both", x.feast(12), 0);
        EDGE.dueRow(x, 3, 2, 3);
        EDGE.due("all", x.feast(15), 0);
        EDGE.dueRow(x, 3, 0, 1);
        EDGE.due("by the other HALF", x.feast(9), 0);
        EDGE.dueRow(x, 3, 0, 3);
        OnlyHalves ten = Edge.with("", EIGHT, "t2-3*1,1;t4-5*1,1;t6-7*1,1", FIVE_THINGS, "t0-1*1,1;t0-1*1,1");
        EDGE.due("the last two", ten.feast(768 + 7), 0);
        EDGE.dueRow(ten, -1, 8, 9);
        ten.between(0, 1, 2);
        EDGE.due("the last one", ten.feast(512 + 7), 0);
        EDGE.dueRow(ten, 9, -1, -1);
    }

    private static void feastOfWrongBits() {
        EDGE.says(28, "NONE: bits of none such.");
        OnlyHalves x = Edge.with("", "1;1;t0-1*11,1;t0-1*5,1;q0-1");
        x.feast(3);
        for (int bits : new int[] {4, 5, 7, 1024, -1, Integer.MIN_VALUE, Integer.MAX_VALUE}) {
            EDGE.refused(x, "feast(" + bits + ")", () -> x.feast(bits));
        }
        OnlyHalves none = new OnlyHalves();
        EDGE.refused(none, "feast(1)", () -> none.feast(1));
        OnlyHalves ten = Edge.with("", EIGHT, FIVE_THINGS, FIVE_THINGS);
        EDGE.due("feast(1023)", ten.feast(1023), 0);
        EDGE.refused(ten, "feast(1024)", () -> ten.feast(1024));
    }

    // ---- prepare

    private static void prepareNothing() {
        EDGE.says(29, "The fewest SALES");
        OnlyHalves x = Edge.with("", "1;1;1;1;t0-1*11,1;t1-2*25,1;t2-3*17,1;t3-0*1,1");
        x.pair();
        EDGE.due("prepare(0)", x.prepare(0), 0);
        EDGE.dueRow(x);
        EDGE.due("prepare(5)", x.prepare(5), 0);
        EDGE.dueRow(x);
        EDGE.due("prepare(8)", x.prepare(8), 0);
        EDGE.dueRow(x);
        EDGE.due("of nobody", new OnlyHalves().prepare(0), 0);
    }

    private static void prepareTheFewest() {
        EDGE.says(29, "of as few the least row");
        OnlyHalves x = Edge.with("", "1;1;1;1;t0-1*11,1;t1-2*25,1;t2-3*17,1");
        // THING 0 or THING 1 leaves 1; HALF 1 to 3 leaves 1 to the other one.
        EDGE.due("prepare(3)", x.prepare(3), 1);
        EDGE.dueRow(x, 13);
        x.between(0, 3, 2);
        EDGE.due("prepare(3)", x.prepare(3), 1);
        EDGE.dueRow(x, 23);
        x.between(2, 3, 2);
        EDGE.due("prepare(3)", x.prepare(3), 2);
        EDGE.dueRow(x, 3, 20);
        EDGE.says(29, "each of any HALF to any that holds neither of that THING, whatever it is worth");
        OnlyHalves poor = Edge.with("0-i", "0;0;0;t0-1*11,1;q0-1");
        EDGE.due("prepare(1)", poor.prepare(1), 1);
        EDGE.dueRow(poor, 2);
        poor.law(1, 99);
        EDGE.due("prepare(1), of a FEE", poor.prepare(1), 1);
        poor.between(1, 2, 2);
        EDGE.due("prepare(1)", poor.prepare(1), 1);
        EDGE.dueRow(poor, 12);
        poor.between(0, 2, 2);
        EDGE.due("prepare(1)", poor.prepare(1), -2);
        EDGE.says(29, "HALVES of told THINGS alone are sold.");
        OnlyHalves y = Edge.with("", "1;1;1;1;t0-1*11,1;t1-2*25,1;t0-2*17,1;q2-1");
        EDGE.due("prepare(2)", y.prepare(2), 1);
        EDGE.dueRow(y, 20);
        EDGE.due("prepare(6)", y.prepare(6), 1);
        EDGE.dueRow(y, 33);
        EDGE.due("nothing is sold", Edge.thing(y, 1, 3), 2);
        EDGE.due("nothing is kept", y.count(3), 0);
    }

    private static void prepareThatCannotBe() {
        EDGE.says(29, "-2: it can't be");
        OnlyHalves x = Edge.with("", "1;1;1;t0-1*11,1;t1-2*25,1");
        x.pair();
        EDGE.stays(x, "two THINGS of three PEOPLE", -2, () -> x.prepare(3));
        OnlyHalves two = Edge.with("", "1;1;t0-1*11,1;q0-1");
        EDGE.stays(two, "two in QUARREL, and nobody else", -2, () -> two.prepare(1));
        EDGE.due("none of them", two.prepare(0), 0);
        OnlyHalves four = Edge.with("", "1;1;1;1;t0-1*11,1;t0-1*25,1;t0-1*25,1");
        EDGE.stays(four, "three THINGS of four PEOPLE", -2, () -> four.prepare(7));
        EDGE.due("two THINGS of four PEOPLE", four.prepare(6), 2);
        EDGE.dueRow(four, 22, 33);
    }

    private static void prepareTooMany() {
        EDGE.says(0, "are counted first: more than 3000: -3");
        // A THING has 56 ways among eight, 42 among seven; two have 3136, 1764.
        OnlyHalves eight = Edge.with("", EIGHT, "t0-1*1,1;t0-2*1,1");
        eight.pair();
        EDGE.due("56 STATES", eight.prepare(1), 0);
        EDGE.due("56 STATES", eight.prepare(2), 0);
        EDGE.stays(eight, "3136 STATES", -3, () -> eight.prepare(3));
        EDGE.due("56 STATES, behind too many", eight.prepare(1), 0);
        OnlyHalves ready = Edge.with("", EIGHT, "t0-1*1,1;t2-3*1,1");
        EDGE.stays(ready, "3136 STATES, and none is needed", -3, () -> ready.prepare(3));
        OnlyHalves seven = Edge.with("", "1;2;3;4;5;6;7;t0-1*1,1;t0-2*1,1");
        EDGE.due("1764 STATES", seven.prepare(3), 1);
        EDGE.dueRow(seven, 3);
        // Among four, three have 1728, and four 20736; none of both can be used on one DAY.
        OnlyHalves four = Edge.with("", "1;1;1;1;t0-1*1,1;t0-1*1,1;t0-1*1,1;t0-1*1,1");
        EDGE.stays(four, "1728 STATES", -2, () -> four.prepare(7));
        EDGE.stays(four, "20736 STATES", -3, () -> four.prepare(15));
    }

    private static void prepareOfWrongBits() {
        EDGE.says(29, "-3; NONE as feast().");
        OnlyHalves x = Edge.with("", EIGHT, "t0-1*1,1;t0-2*1,1");
        for (int bits : new int[] {4, 7, 1024, -1, Integer.MIN_VALUE, Integer.MAX_VALUE}) {
            EDGE.refused(x, "prepare(" + bits + ")", () -> x.prepare(bits));
        }
        EDGE.says(0, "NONE is asked ahead of other answers below 0");
        EDGE.refused(x, "prepare(7)", () -> x.prepare(7));
        OnlyHalves none = new OnlyHalves();
        EDGE.refused(none, "prepare(1)", () -> none.prepare(1));
    }
}
