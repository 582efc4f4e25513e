import java.util.function.Consumer;

/** The edges of the book of uses, of calves and of what is kept: promises 38 to 47. */
public final class EdgesKeptTest {
    private static final Edge EDGE = new Edge();
    private static final String EIGHT = "1;2;3;4;5;6;7;8";
    private static final String FIVE_THINGS = "t0-1*1,0;t0-1*2,1;t0-1*3,2;t0-1*4,3;t0-1*5,4";
    private static final int[] WRONG = {-1, 2, 8, 10, Integer.MIN_VALUE, Integer.MAX_VALUE};

    public static void main(String[] args) {
        toldInOrder();
        toldSixteen();
        toldByOthers();
        explainsNone();
        explainsTheFewest();
        explainsWhoHoldsItNow();
        explainsOthers();
        steadyOnes();
        steadyOthers();
        calfOfHalf();
        calfOfWhom();
        calvesOfTen();
        today();
        seeds();
        keepsTwo();
        keepsAll();
        keepsNothingElse();
        againOfNothing();
        againOfThoseWhoCame();
        againForgets();
        counts();
        countOfOthers();
        rows();
        rowsAreToldAnew();
        rowsStay();
        calls();
        EDGE.end(38, 47);
    }

    /** Four people; THING 0 of 0 and 1, THING 1 of 2 and 3. */
    private static OnlyHalves four() {
        return Edge.with("", "1;2;3;4;t0-1*10,1;t2-3*15,1");
    }

    // ---- a book of uses

    private static void toldInOrder() {
        EDGE.says(38, "behind those told: how many were told");
        OnlyHalves x = four();
        EDGE.due("told(0, 0, 1)", x.told(0, 0, 1), 1);
        EDGE.due("told of another THING", x.told(1, 0, 1), 2);
        EDGE.due("told by some who hold no HALF of it", x.told(0, 3, 2), 3);
        EDGE.due("the same again", x.told(0, 3, 2), 4);
        EDGE.due("count(4)", x.count(4), 4);
        EDGE.due("nothing else changes", x.count(3), 0);
        EDGE.due("nobody took part", Edge.of(x, 0, 4), 0);
    }

    private static void toldSixteen() {
        EDGE.says(38, "Refused: others, 16.");
        OnlyHalves x = four();
        for (int i = 1; i <= 16; i++) {
            EDGE.due("told", x.told(i & 1, 0, 1), i);
        }
        EDGE.refused(x, "a 17th of THING 0", () -> x.told(0, 0, 1));
        EDGE.refused(x, "a 17th of THING 1", () -> x.told(1, 2, 3));
        EDGE.due("explains(0)", x.explains(0), 0);
        EDGE.dueRow(x, 8, 3);
        EDGE.due("explains(1)", x.explains(1), 2);
        EDGE.dueRow(x, 8, 15);
    }

    private static void toldByOthers() {
        EDGE.says(38, "by two unlike ones");
        OnlyHalves x = four();
        x.pair();
        for (int person = 0; person < 4; person++) {
            int p = person;
            EDGE.refused(x, "told(0, " + p + ", " + p + ")", () -> x.told(0, p, p));
        }
        EDGE.says(38, "Refused: others, 16.");
        for (int wrong : WRONG) {
            EDGE.refused(x, "told(" + wrong + ", 0, 1)", () -> x.told(wrong, 0, 1));
        }
        for (int wrong : new int[] {-1, 4, 8, Integer.MIN_VALUE, Integer.MAX_VALUE}) {
            EDGE.refused(x, "told(0, " + wrong + ", 1)", () -> x.told(0, wrong, 1));
            EDGE.refused(x, "told(0, 1, " + wrong + ")", () -> x.told(0, 1, wrong));
            EDGE.refused(x, "told(0, " + wrong + ", " + wrong + ")", () -> x.told(0, wrong, wrong));
        }
        OnlyHalves none = new OnlyHalves();
        EDGE.refused(none, "told(0, 0, 1)", () -> none.told(0, 0, 1));
    }

    private static void explainsNone() {
        EDGE.says(39, "how many; the ROW: how many were told of it, PEOPLE (bits) that held a HALF at some such USE, or now");
        OnlyHalves x = four();
        EDGE.due("explains(0) of none told", x.explains(0), 0);
        EDGE.dueRow(x, 0, 3);
        EDGE.due("explains(1) of none told", x.explains(1), 0);
        EDGE.dueRow(x, 0, 12);
        x.told(0, 2, 3);
        EDGE.due("explains(1) when another one was told of", x.explains(1), 0);
        EDGE.dueRow(x, 0, 12);
        EDGE.due("explains(0)", x.explains(0), 2);
        EDGE.dueRow(x, 1, 15);
        OnlyHalves last = Edge.with("", EIGHT, "t7-6*1,1");
        EDGE.due("explains(0) of the last two", last.explains(0), 0);
        EDGE.dueRow(last, 0, 192);
    }

    private static void explainsTheFewest() {
        EDGE.says(39, "The fewest SALES (of any HALF, THE VOW holding) that explain what was told of a THING");
        OnlyHalves x = four();
        x.told(0, 1, 0);
        EDGE.due("the same two", x.explains(0), 0);
        x.told(0, 0, 1);
        EDGE.due("the same two, told the other way round", x.explains(0), 0);
        x.told(0, 0, 2);
        x.told(1, 0, 1);
        EDGE.due("one is another, and is back now", x.explains(0), 1 + 1);
        EDGE.dueRow(x, 3, 7);
        x.told(0, 3, 1);
        EDGE.due("both are others", x.explains(0), 1 + 2 + 1);
        EDGE.dueRow(x, 4, 15);
        x.told(0, 2, 0);
        EDGE.due("both are others again", x.explains(0), 1 + 2 + 2 + 1);
        EDGE.dueRow(x, 5, 15);
        EDGE.due("explains(1)", x.explains(1), 2);
        EDGE.dueRow(x, 1, 15);
        EDGE.due("nothing changes", x.count(3), 0);
    }

    private static void explainsWhoHoldsItNow() {
        EDGE.says(39, "from one USE to the next, and to who holds it now");
        OnlyHalves x = four();
        x.told(0, 0, 1);
        EDGE.due("as it is now", x.explains(0), 0);
        x.swap(0, 2);
        EDGE.due("one HALF is another's", x.explains(0), 1);
        EDGE.dueRow(x, 1, 7);
        x.swap(1, 3);
        EDGE.due("both are others'", x.explains(0), 2);
        EDGE.dueRow(x, 1, 15);
        x.told(0, 3, 2);
        EDGE.due("both are others', and told so", x.explains(0), 2);
        x.undo();
        x.undo();
        EDGE.due("and back now", x.explains(0), 4);
        EDGE.dueRow(x, 2, 15);
    }

    private static void explainsOthers() {
        EDGE.says(39, "NONE: none such.");
        OnlyHalves x = four();
        x.told(0, 0, 1);
        x.explains(0);
        for (int wrong : WRONG) {
            EDGE.refused(x, "explains(" + wrong + ")", () -> x.explains(wrong));
        }
        OnlyHalves none = new OnlyHalves();
        EDGE.refused(none, "explains(0)", () -> none.explains(0));
    }

    private static void steadyOnes() {
        EDGE.says(40, "PEOPLE (bits) that hold a HALF of a THING now and were told at each USE of it.");
        OnlyHalves x = four();
        x.pair();
        EDGE.stays(x, "steady(0) of none told", 3, () -> x.steady(0));
        EDGE.due("steady(1) of none told", x.steady(1), 12);
        x.told(0, 1, 2);
        EDGE.due("steady(0)", x.steady(0), 2);
        EDGE.due("steady(1)", x.steady(1), 12);
        x.told(0, 0, 1);
        EDGE.due("steady(0)", x.steady(0), 2);
        x.swap(1, 3);
        EDGE.due("steady(0) of another one now", x.steady(0), 0);
        x.undo();
        EDGE.due("steady(0)", x.steady(0), 2);
        x.told(0, 2, 0);
        EDGE.due("steady(0) of none", x.steady(0), 0);
        for (int i = 4; i < 15; i++) {
            x.told(1, 2, 3);
        }
        EDGE.due("steady(1)", x.steady(1), 12);
        x.told(1, 0, 3);
        EDGE.due("steady(1), by the 15th", x.steady(1), 8);
        x.told(1, 0, 1);
        EDGE.due("steady(1), by the 16th", x.steady(1), 0);
    }

    private static void steadyOthers() {
        EDGE.says(40, "NONE: none such.");
        OnlyHalves x = four();
        for (int wrong : WRONG) {
            EDGE.refused(x, "steady(" + wrong + ")", () -> x.steady(wrong));
        }
        OnlyHalves none = new OnlyHalves();
        EDGE.refused(none, "steady(0)", () -> none.steady(0));
    }

    // ---- calves

    private static void calfOfHalf() {
        EDGE.says(41, "of half the VALUE of a THING (cut, 1 at least)");
        int[] value = {1, 2, 3, 4, 5, 98, 99};
        int[] half = {1, 1, 1, 2, 2, 49, 49};
        for (int i = 0; i < value.length; i++) {
            OnlyHalves x = Edge.with("", "1;2;t0-1*" + value[i] + ",7");
            EDGE.due("bear(0)", x.bear(0), 1);
            EDGE.due("VALUE of " + value[i], Edge.thing(x, 1, 0), half[i]);
            EDGE.due("VALUE of the other one", Edge.thing(x, 0, 0), value[i]);
            EDGE.due("KIND", Edge.thing(x, 1, 1), 7);
        }
    }

    private static void calfOfWhom() {
        EDGE.says(41, "the first HALF with who holds its other one, the other with who holds its first: its number");
        OnlyHalves x = Edge.with("", "1;2;3;4;t0-1*10,1;t2-3*15,2;t0-3*20,3");
        int[][] two = {{1, 0}, {3, 2}, {3, 0}};
        for (int thing = 0; thing < 3; thing++) {
            EDGE.due("bear(" + thing + ")", x.bear(thing), 3 + thing);
            EDGE.due("first", Edge.thing(x, 3 + thing, 2), two[thing][0]);
            EDGE.due("other", Edge.thing(x, 3 + thing, 3), two[thing][1]);
            EDGE.due("KIND", Edge.thing(x, 3 + thing, 1), 1 + thing);
        }
        EDGE.due("bear() of a calf", x.bear(3), 6);
        EDGE.due("first", Edge.thing(x, 6, 2), 0);
        EDGE.due("VALUE", Edge.thing(x, 6, 0), 2);
    }

    private static void calvesOfTen() {
        EDGE.says(41, "Refused: none such, 10.");
        OnlyHalves x = four();
        x.pair();
        for (int wrong : WRONG) {
            EDGE.refused(x, "bear(" + wrong + ")", () -> x.bear(wrong));
        }
        for (int thing = 2; thing < 10; thing++) {
            EDGE.due("bear", x.bear(thing - 1), thing);
        }
        for (int thing = 0; thing < 11; thing++) {
            int t = thing;
            EDGE.refused(x, "bear(" + thing + ") of ten", () -> x.bear(t));
        }
        EDGE.due("count(1)", x.count(1), 10);
        OnlyHalves none = new OnlyHalves();
        EDGE.refused(none, "bear(0)", () -> none.bear(0));
    }

    // ---- kept

    private static void today() {
        EDGE.says(42, "TODAY.");
        OnlyHalves x = four();
        EDGE.stays(x, "today()", 0, x::today);
        x.days(100);
        x.days(3);
        x.days(0);
        EDGE.stays(x, "today()", 103, x::today);
    }

    private static void seeds() {
        EDGE.says(43, "R becomes v: what it was.");
        OnlyHalves x = new OnlyHalves();
        int was = 1;
        for (int v : new int[] {0, -1, Integer.MIN_VALUE, Integer.MAX_VALUE, 7}) {
            EDGE.due("seed(" + v + ")", x.seed(v), was);
            was = v;
        }
    }

    private static void keepsTwo() {
        EDGE.says(44, "under a number 0 .. 1: true. Refused: others.");
        OnlyHalves x = four();
        for (int wrong : new int[] {-1, 2, 3, Integer.MIN_VALUE, Integer.MAX_VALUE}) {
            EDGE.stays(x, "keep(" + wrong + ")", 0, () -> x.keep(wrong) ? 1 : 0);
            EDGE.stays(x, "again(" + wrong + ")", 0, () -> x.again(wrong) ? 1 : 0);
        }
        EDGE.stays(x, "keep(0)", 1, () -> x.keep(0) ? 1 : 0);
        x.days(1);
        EDGE.stays(x, "keep(1)", 1, () -> x.keep(1) ? 1 : 0);
        x.days(1);
        EDGE.due("again(0)", x.again(0), true);
        EDGE.due("today()", x.today(), 0);
        EDGE.due("again(1)", x.again(1), true);
        EDGE.due("today()", x.today(), 1);
        EDGE.due("keep(0) once more", x.keep(0), true);
        x.days(5);
        EDGE.due("again(0)", x.again(0), true);
        EDGE.due("today()", x.today(), 1);
        EDGE.due("nobody is kept, too", new OnlyHalves().keep(1), true);
    }

    private static void keepsAll() {
        EDGE.says(44, "COIN, who holds what, who took part, TODAY, FRIENDS and QUARRELS, R are kept");
        OnlyHalves x = Edge.with("i*10", EIGHT, "t0-1*10,1;t6-7*15,1;f0-7;q2-5");
        x.days(2);
        x.use(1);
        x.seed(-55);
        String before = Edge.all(x);
        EDGE.due("keep(0)", x.keep(0), true);
        x.between(0, 7, 2);
        x.between(2, 5, 1);
        x.between(3, 4, 1);
        x.days(3);
        x.sell(0, 5);
        x.use(0);
        x.run(2, 9);
        EDGE.due("all is another", before.equals(Edge.all(x)), false);
        EDGE.says(45, "They are as they were kept under a number.");
        EDGE.due("again(0)", x.again(0), true);
        x.run(2, 0);
        EDGE.due("COIN", Edge.of(x, 0, 0), 1 + 10);
        EDGE.due("COIN", Edge.of(x, 7, 0), 8 + 14 + 7);
        EDGE.due("who holds what", Edge.of(x, 6, 1), 4);
        EDGE.due("who holds what", Edge.of(x, 0, 1), 1);
        EDGE.due("who took part", Edge.of(x, 6, 4), 1);
        EDGE.due("who took part", Edge.of(x, 0, 4), 0);
        EDGE.due("who took part", Edge.of(x, 5, 4), 0);
        EDGE.due("TODAY", x.today(), 2);
        EDGE.due("FRIENDS", Edge.of(x, 7, 2), 1);
        EDGE.due("FRIENDS", Edge.of(x, 3, 2), 0);
        EDGE.due("QUARRELS", Edge.of(x, 5, 3), 4);
        EDGE.due("QUARRELS", Edge.of(x, 0, 3), 0);
        EDGE.due("R", x.seed(1), -55);
        EDGE.due("again(0) once more", x.again(0), true);
        EDGE.due("R", x.seed(1), -55);
    }

    private static void keepsNothingElse() {
        EDGE.says(44, "COIN, who holds what, who took part, TODAY, FRIENDS and QUARRELS, R are kept");
        OnlyHalves x = Edge.with("", "1;2;3;t0-1*10,1;t1-2*15,1");
        x.keep(1);
        x.law(0, 2);
        x.law(1, 44);
        x.sheet(2, 2, 70, 1);
        x.told(0, 1, 2);
        Edge.rule(x, "v+o");
        x.pair();
        Edge.text(x, "12345");
        EDGE.due("again(1)", x.again(1), true);
        EDGE.due("sort stays", x.law(0, 2), 2);
        EDGE.due("FEE stays", x.law(1, 44), 44);
        EDGE.due("VALUES stay", Edge.thing(x, 1, 0), 71);
        EDGE.due("what was told stays", x.count(4), 1);
        EDGE.due("THE RULE stays", x.worth(2, 1), 71 + 2);
        EDGE.due("THE TEXT stays", x.count(7), 5);
        EDGE.dueRow(x, 0, 1, 1);
    }

    private static void againOfNothing() {
        EDGE.says(45, "Refused: nothing kept, PEOPLE or THINGS came since.");
        OnlyHalves x = four();
        EDGE.stays(x, "again(0) of nothing kept", 0, () -> x.again(0) ? 1 : 0);
        EDGE.stays(x, "again(1) of nothing kept", 0, () -> x.again(1) ? 1 : 0);
        x.keep(1);
        EDGE.stays(x, "again(0) of nothing kept", 0, () -> x.again(0) ? 1 : 0);
        EDGE.due("again(1)", x.again(1), true);
        OnlyHalves nobody = new OnlyHalves();
        EDGE.stays(nobody, "again(0) of nothing kept", 0, () -> nobody.again(0) ? 1 : 0);
        nobody.keep(0);
        nobody.days(4);
        EDGE.due("again(0) of nobody", nobody.again(0), true);
        EDGE.due("today()", nobody.today(), 0);
    }

    private static void againOfThoseWhoCame() {
        EDGE.says(45, "Refused: nothing kept, PEOPLE or THINGS came since.");
        OnlyHalves person = four();
        person.keep(0);
        Edge.market(person, "f0-1;q2-3");
        EDGE.due("FRIENDS and QUARRELS came alone", person.again(0), true);
        EDGE.due("no FRIENDS", Edge.of(person, 0, 2), 0);
        Edge.market(person, "5");
        person.swap(0, 2);
        EDGE.stays(person, "again(0) of one who came", 0, () -> person.again(0) ? 1 : 0);
        person.keep(1);
        EDGE.due("again(1)", person.again(1), true);
        EDGE.due("again(0)", person.again(0), false);
        OnlyHalves thing = four();
        thing.keep(1);
        Edge.market(thing, "t0-1*1,1");
        EDGE.stays(thing, "again(1) of a THING that came", 0, () -> thing.again(1) ? 1 : 0);
        OnlyHalves calf = four();
        calf.keep(0);
        calf.bear(0);
        EDGE.stays(calf, "again(0) of a calf that came", 0, () -> calf.again(0) ? 1 : 0);
        OnlyHalves none = four();
        none.keep(0);
        Edge.market(none, "5;t0-0*1,1");
        EDGE.due("a market that can't stand", none.again(0), true);
    }

    private static void againForgets() {
        EDGE.says(14, "and again() forget them");
        OnlyHalves x = four();
        x.keep(0);
        x.swap(0, 2);
        EDGE.due("again(1)", x.again(1), false);
        EDGE.due("count(3)", x.count(3), 1);
        EDGE.due("again(0)", x.again(0), true);
        EDGE.due("count(3)", x.count(3), 0);
        EDGE.due("undo()", x.undo(), -1);
    }

    private static void counts() {
        EDGE.says(46, "What 0: PEOPLE, 1: THINGS, 2: those TOGETHER (bits), 3: SALES and SWAPS that can be undone, "
                + "4: how many USES were told, 5: the sum of COIN, 6: numbers of the ROW, 7: signs of THE TEXT.");
        OnlyHalves x = Edge.with("i", "999;999;999;999;999;t0-1*10,1;t2-3*15,1;t3-1*9,2;f2-3;f1-3");
        x.swap(0, 2);
        x.swap(0, 2);
        x.sell(0, 4);
        x.told(0, 1, 2);
        x.partner(0, 0);
        Edge.text(x, "abc");
        int[] want = {5, 3, 6, 3, 1, 5 * 999, 4, 3};
        for (int what = 0; what < 8; what++) {
            int w = what;
            EDGE.stays(x, "count(" + what + ")", want[what], () -> x.count(w));
        }
        OnlyHalves eight = Edge.with("", "999;999;999;999;999;999;999;999");
        EDGE.due("count(5) of eight", eight.count(5), 8 * 999);
    }

    private static void countOfOthers() {
        EDGE.says(46, "NONE for another what.");
        OnlyHalves x = four();
        for (int wrong : new int[] {-1, 8, 9, Integer.MIN_VALUE, Integer.MAX_VALUE}) {
            EDGE.refused(x, "count(" + wrong + ")", () -> x.count(wrong));
        }
    }

    private static void rows() {
        EDGE.says(47, "NoSuchElementException: none such.");
        OnlyHalves x = four();
        for (int i : new int[] {-1, 0, 1, Integer.MIN_VALUE, Integer.MAX_VALUE}) {
            EDGE.stays(x, "row(" + i + ") of none", Edge.THROWN, () -> Edge.row(x, i));
        }
        x.pair();
        EDGE.says(47, "Number i of the ROW.");
        EDGE.dueRow(x, 0, 1, 1);
        for (int i : new int[] {-1, 3, 4, 10, 11, Integer.MIN_VALUE, Integer.MAX_VALUE}) {
            EDGE.stays(x, "row(" + i + ") of three", Edge.THROWN, () -> Edge.row(x, i));
        }
        EDGE.says(0, "ROW: numbers told last by a call that says so.");
        x.day();
        EDGE.dueRow(x, 3);
        x.partner(0, 0);
        EDGE.dueRow(x, 1, 1, 10, 10);
        x.open();
        EDGE.dueRow(x);
    }

    private static void told(String call, int numbers, Consumer<OnlyHalves> made) {
        OnlyHalves x = Edge.with("i", "90;90;90;90;t0-1*10,1;t2-3*15,1;f0-2;f1-3");
        made.accept(x);
        EDGE.due("numbers of " + call, x.count(6), numbers);
        int[] row = new int[numbers];
        for (int i = 0; i < numbers; i++) {
            row[i] = Edge.row(x, i);
        }
        OnlyHalves y = Edge.with("i", "90;90;90;90;t0-1*10,1;t2-3*15,1;f0-2;f1-3");
        y.partner(0, 0);
        made.accept(y);
        EDGE.dueRow(y, row);
    }

    private static void rowsAreToldAnew() {
        EDGE.says(0, "ROW: numbers told last by a call that says so.");
        told("can()", 3, x -> x.can(0, 2));
        told("can() of 0", 3, x -> x.can(3, 0));
        told("judge()", 1, x -> x.judge(0, 0));
        told("open()", 2, OnlyHalves::open);
        told("run()", 2, x -> x.run(0, 1));
        told("partner()", 4, x -> x.partner(3, 2));
        told("day()", 1, OnlyHalves::day);
        told("without()", 1, x -> x.without(0));
        told("pair()", 3, OnlyHalves::pair);
        told("richest()", 3, OnlyHalves::richest);
        told("feast() of 0", 3, x -> {
            x.between(0, 1, 2);
            x.feast(1);
        });
        told("prepare() of 0", 0, x -> x.prepare(1));
        told("prepare() of 1", 1, x -> {
            x.between(0, 1, 2);
            x.prepare(1);
        });
        told("maySwap() of 1", 2, x -> x.maySwap(0, 2));
        told("maySwap() of 0", 0, x -> x.maySwap(0, 1));
        told("good() of none", 0, OnlyHalves::good);
        told("good()", 1, x -> {
            Edge.rule(x, "f");
            x.good();
        });
        told("rests()", 2, x -> x.rests(100));
        told("friends()", 2, OnlyHalves::friends);
        told("states()", 2, OnlyHalves::states);
        told("estate()", 1, x -> x.estate(0));
        told("estate() of none", 0, x -> x.estate(3));
        told("greedy()", 2, x -> x.greedy(0));
        told("explains()", 2, x -> x.explains(0));
    }

    private static void rowsStay() {
        EDGE.says(0, "ROW: numbers told last by a call that says so.");
        OnlyHalves x = Edge.with("i", "90;90;90;90;t0-1*10,1;t2-3*15,1;f0-1");
        x.partner(0, 0);
        int[] row = {Edge.row(x, 0), Edge.row(x, 1), Edge.row(x, 2), Edge.row(x, 3)};
        x.worth(0, 0);
        x.wealth(0);
        x.quarrel(0, 1);
        x.bars(0);
        x.steady(0);
        x.today();
        x.seed(1);
        x.keep(0);
        x.again(0);
        x.count(0);
        x.between(0, 1, 0);
        x.law(0, 1);
        x.sheet(2, 2, 5, 1);
        x.told(0, 0, 1);
        x.use(0);
        x.days(1);
        x.sell(0, 2);
        x.swap(0, 3);
        x.undo();
        x.bear(0);
        Edge.market(x, "5");
        Edge.market(x, "x");
        Edge.rule(x, "v");
        Edge.rule(x, "x");
        x.feast(1);
        EDGE.dueRow(x, row);
    }

    private static void calls() {
        EDGE.says(0, "An object is used for at most 512 calls after it has been made");
        OnlyHalves x = new OnlyHalves();
        x.sign('9' << 24 | ';' << 16 | '8' << 8 | ';');
        x.sign('7' << 24);
        x.end(5);
        EDGE.due("market(), the 4th call", x.market(), 3);
        for (int i = 5; i < 512; i++) {
            x.states();
        }
        EDGE.due("richest(), the 512th call", x.richest(), 0);
    }
}
