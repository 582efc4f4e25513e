import java.util.ArrayList;
import java.util.Arrays;
import java.util.HashMap;
import java.util.HashSet;
import java.util.LinkedHashMap;
import java.util.List;
import java.util.Map;
import java.util.NoSuchElementException;
import java.util.Random;
import java.util.Set;

/**
 * Compares OnlyHalves with a slow twin, which is written from the document alone and in other ways
 * (whole texts are judged by patterns, searches keep whole paths), over many random runs of calls.
 */
public final class TwinTest {
    private static final int RUNS = 1200;
    private static final int CALLS = 300;

    public static void main(String[] args) {
        int runs = args.length > 0 ? Integer.parseInt(args[0]) : RUNS;
        long first = args.length > 1 ? Long.parseLong(args[1]) : 1;
        int wrong = 0;
        long calls = 0;
        int[][] seen = new int[46][3];
        for (long seed = first; seed < first + runs && wrong < 10; seed++) {
            Run run = new Run(seed, seen);
            String fault = run.play();
            calls += run.made;
            if (fault != null) {
                wrong++;
                System.out.println("seed " + seed + ": " + fault);
            }
        }
        for (int i = 0; i < seen.length; i++) {
            if (seen[i][0] == 0) {
                wrong++;
                System.out.println("call " + i + " was never made");
            }
        }
        if (args.length > 0) {
            for (int i = 0; i < seen.length; i++) {
                System.out.println(i + " " + Arrays.toString(seen[i]));
            }
        }
        System.out.println(calls + " calls in " + runs + " runs, " + wrong + " wrong");
        if (wrong != 0) {
            System.exit(1);
        }
    }

    /** One run of random calls on a new object and a new twin. */
    private static final class Run {
        private final Random random;
        private final int[][] seen;
        private final OnlyHalves real = new OnlyHalves();
        private final Twin twin = new Twin();
        private final List<String> log = new ArrayList<>();
        private final boolean isTame;
        private final boolean isSmall;
        int made;

        Run(long seed, int[][] seen) {
            random = new Random(seed);
            this.seen = seen;
            isTame = random.nextInt(4) != 0;
            isSmall = random.nextInt(3) != 0;
        }

        String play() {
            try {
                if (isTame) {
                    begin();
                }
                for (int i = 0; i < CALLS; i++) {
                    one(random.nextInt(46));
                }
                return null;
            } catch (Differs e) {
                int from = Math.max(0, log.size() - 40);
                return e.getMessage() + "\n  " + String.join("\n  ", log.subList(from, log.size()));
            }
        }

        private int upTo(int n) {
            return random.nextInt(n + 1);
        }

        private int wild() {
            return new int[] {Integer.MIN_VALUE, Integer.MAX_VALUE, random.nextInt(), -1, 8, 10, 20}[random.nextInt(7)];
        }

        private int person() {
            int n = twin.coin.size();
            return random.nextInt(50) == 0 ? wild() : random.nextInt(15) == 0 || n == 0 ? random.nextInt(12) - 2 : random.nextInt(n);
        }

        private int thing() {
            int n = twin.values.size();
            return random.nextInt(50) == 0 ? wild() : random.nextInt(15) == 0 || n == 0 ? random.nextInt(14) - 2 : random.nextInt(n);
        }

        private int half() {
            int n = 2 * twin.values.size();
            return random.nextInt(50) == 0 ? wild() : random.nextInt(15) == 0 || n == 0 ? random.nextInt(24) - 2 : random.nextInt(n);
        }

        private int bits() {
            int n = twin.values.size();
            if (random.nextInt(15) == 0) {
                return random.nextInt();
            }
            int bits = 0;
            for (int i = 0; i < 1 + random.nextInt(3) && n > 0; i++) {
                bits |= 1 << random.nextInt(n);
            }
            return bits;
        }

        private void begin() {
            int people = isSmall ? 2 + upTo(2) : 2 + upTo(6);
            StringBuilder text = new StringBuilder();
            for (int i = 0; i < people; i++) {
                text.append(i == 0 ? "" : ";").append(random.nextInt(5) == 0 ? 999 : upTo(200));
            }
            tellText(text.toString());
            one(2);
            int things = isSmall ? 1 + upTo(3) : 1 + upTo(5);
            for (int i = 0; i < things; i++) {
                tellText(thingLine(people));
                one(2);
            }
            for (int i = 0; i < people; i++) {
                tellText(bondLine(people));
                one(2);
            }
            tellText(RuleMaker.make(random));
            one(3);
        }

        private String thingLine(int people) {
            int a = random.nextInt(Math.max(1, people));
            int b = random.nextInt(Math.max(1, people));
            return "t" + a + "-" + b + "*" + upTo(random.nextBoolean() ? 99 : 9) + "," + upTo(2);
        }

        private String bondLine(int people) {
            int a = random.nextInt(Math.max(1, people));
            int b = random.nextInt(Math.max(1, people));
            return (random.nextInt(3) != 0 ? "f" : "q") + a + "-" + b;
        }

        private String marketText() {
            int people = twin.coin.size();
            StringBuilder text = new StringBuilder();
            int lines = 1 + upTo(random.nextInt(6) == 0 ? 11 : 2);
            for (int i = 0; i < lines; i++) {
                text.append(i == 0 ? "" : ";");
                int sort = random.nextInt(6);
                if (sort == 0) {
                    text.append(upTo(1100));
                } else if (sort < 3) {
                    text.append(thingLine(people));
                } else {
                    text.append(bondLine(people));
                }
            }
            return spoil(text.toString());
        }

        private String spoil(String text) {
            StringBuilder spoilt = new StringBuilder(text);
            int times = random.nextInt(4) == 0 ? 1 + upTo(1) : 0;
            String signs = "0123456789;;tfq--*,iocvkhsx()<>=+/ ";
            for (int i = 0; i < times; i++) {
                int at = random.nextInt(spoilt.length() + 1);
                char sign = signs.charAt(random.nextInt(signs.length()));
                int how = random.nextInt(4);
                if (how == 0 && at < spoilt.length()) {
                    spoilt.setCharAt(at, sign);
                } else if (how == 1) {
                    spoilt.insert(at, sign);
                } else if (how == 2 && at < spoilt.length()) {
                    spoilt.deleteCharAt(at);
                } else {
                    spoilt.setLength(at);
                }
            }
            return spoilt.toString();
        }

        private void tellText(String told) {
            String text = told.length() > 80 ? told.substring(0, 80) : told;
            due("end(0)", real.end(0) ? 1 : 0, twin.end(0) ? 1 : 0);
            for (int i = 0; i < text.length(); i += 4) {
                int v = 0;
                for (int j = i; j < i + 4; j++) {
                    v = v << 8 | (j < text.length() ? text.charAt(j) : 0);
                }
                due("sign(" + v + ")", real.sign(v), twin.sign(v));
            }
            int n = text.length();
            due("end(" + n + ") \"" + text + "\"", real.end(n) ? 1 : 0, twin.end(n) ? 1 : 0);
        }

        private void due(String call, long got, long want) {
            log.add(call + " = " + got);
            made++;
            if (got != want) {
                throw new Differs(call + " answered " + got + ", the twin " + want);
            }
        }

        private void row(int call, String name, long got, long want) {
            seen[call][0]++;
            if (want >= 0) {
                seen[call][1]++;
            } else if (want < -1) {
                seen[call][2]++;
            }
            due(name, got, want);
            due("count(6)", real.count(6), twin.row.size());
            for (int i = 0; i < twin.row.size(); i++) {
                due("row(" + i + ")", real.row(i), twin.row.get(i));
            }
        }

        private void one(int call) {
            int p = person();
            int q = person();
            int t = thing();
            int h = half();
            int g = half();
            switch (call) {
                case 0: {
                    int v = random.nextBoolean() ? random.nextInt() : 0x31323334;
                    row(0, "sign(" + v + ")", real.sign(v), twin.sign(v));
                    break;
                }
                case 1: {
                    int n = random.nextInt(100) - 5;
                    row(1, "end(" + n + ")", real.end(n) ? 1 : 0, twin.end(n) ? 1 : 0);
                    break;
                }
                case 2:
                    if (made > 60 && random.nextInt(4) != 0) {
                        break;
                    }
                    if (made > 60 && random.nextInt(8) != 0) {
                        tellText(marketText());
                    }
                    row(2, "market()", real.market(), twin.market());
                    break;
                case 3:
                    if (made > 60 && random.nextInt(8) != 0) {
                        tellText(spoil(RuleMaker.make(random)));
                    }
                    row(3, "rule()", real.rule(), twin.rule());
                    break;
                case 4:
                    for (int what = -1; what < 6; what++) {
                        row(4, "of(" + p + ", " + what + ")", ask(4, p, what), twin.ask(4, p, what));
                    }
                    break;
                case 5:
                    for (int what = -1; what < 6; what++) {
                        row(5, "thing(" + t + ", " + what + ")", ask(5, t, what), twin.ask(5, t, what));
                    }
                    break;
                case 6: {
                    int is = random.nextInt(9) == 0 ? random.nextInt(7) - 2 : random.nextInt(3);
                    row(6, "between(" + p + ", " + q + ", " + is + ")", real.between(p, q, is), twin.between(p, q, is));
                    break;
                }
                case 7: {
                    int what = random.nextInt(9) == 0 ? random.nextInt(5) - 2 : random.nextInt(2);
                    int v = random.nextInt(3) != 0 ? random.nextInt(4) : random.nextInt(104) - 2;
                    row(7, "law(" + what + ", " + v + ")", real.law(what, v), twin.law(what, v));
                    break;
                }
                case 8: {
                    int kind = random.nextInt(6) - 1;
                    int n = random.nextInt(14) - 2;
                    int f = random.nextInt(3) != 0 ? random.nextInt(99) : random.nextInt();
                    int step = random.nextInt(3) != 0 ? random.nextInt(40) - 9 : random.nextInt();
                    if (random.nextInt(3) == 0) {
                        row(8, "sheet(" + kind + ", " + n + ", " + f + ", " + step + ")",
                                real.sheet(kind, n, f, step), twin.sheet(kind, n, f, step));
                    }
                    break;
                }
                default:
                    two(call, p, q, t, h, g);
            }
        }

        private void two(int call, int p, int q, int t, int h, int g) {
            int n = random.nextInt(20) == 0 ? random.nextInt(110) - 4 : random.nextInt(6);
            n = random.nextInt(50) == 0 ? wild() : n;
            int b = bits();
            switch (call) {
                case 9: row(9, "worth(" + h + ", " + p + ")", real.worth(h, p), twin.worth(h, p)); break;
                case 10: row(10, "can(" + h + ", " + p + ")", real.can(h, p), twin.can(h, p)); break;
                case 11: row(11, "sell(" + h + ", " + p + ")", real.sell(h, p), twin.sell(h, p)); break;
                case 12: row(12, "undo()", real.undo(), twin.undo()); break;
                case 13: {
                    int k = random.nextInt(6) - 1;
                    int told = random.nextInt();
                    if (random.nextInt(4) != 0) {
                        told = 10 * h + p | 10 * g + q << 10 | 10 * half() + person() << 20;
                    }
                    row(13, "judge(" + k + ", " + told + ")", real.judge(k, told), twin.judge(k, told));
                    break;
                }
                case 14: row(14, "open()", real.open(), twin.open()); break;
                case 15: {
                    int sort = random.nextInt(20) == 0 ? random.nextInt(6) - 2 : random.nextInt(3);
                    row(15, "run(" + sort + ", " + n + ")", real.run(sort, n), twin.run(sort, n));
                    break;
                }
                case 16: row(16, "partner(" + h + ", " + p + ")", real.partner(h, p), twin.partner(h, p)); break;
                case 17: row(17, "day()", real.day(), twin.day()); break;
                case 18: row(18, "quarrel(" + p + ", " + q + ")", real.quarrel(p, q), twin.quarrel(p, q)); break;
                case 19: row(19, "bars(" + t + ")", real.bars(t), twin.bars(t)); break;
                case 20: row(20, "without(" + p + ")", real.without(p), twin.without(p)); break;
                case 21: row(21, "pair()", real.pair(), twin.pair()); break;
                case 22: row(22, "wealth(" + p + ")", real.wealth(p), twin.wealth(p)); break;
                case 23: row(23, "richest()", real.richest(), twin.richest()); break;
                case 24: row(24, "use(" + t + ")", real.use(t), twin.use(t)); break;
                case 25:
                    if (random.nextInt(3) == 0) {
                        row(25, "days(" + n + ")", real.days(n), twin.days(n));
                    }
                    break;
                case 26: row(26, "feast(" + b + ")", real.feast(b), twin.feast(b)); break;
                case 27:
                    if (searches(4)) {
                        row(27, "prepare(" + b + ")", real.prepare(b), twin.prepare(b));
                    }
                    break;
                case 28: row(28, "maySwap(" + h + ", " + g + ")", real.maySwap(h, g), twin.maySwap(h, g)); break;
                case 29: row(29, "swap(" + h + ", " + g + ")", real.swap(h, g), twin.swap(h, g)); break;
                case 30: row(30, "good()", real.good(), twin.good()); break;
                case 31: row(31, "rests(" + n + ")", real.rests(n), twin.rests(n)); break;
                default: three(call, p, q, t);
            }
        }

        private void three(int call, int p, int q, int t) {
            int i = random.nextInt(9) == 0 ? random.nextInt(6) - 2 : random.nextInt(2);
            switch (call) {
                case 32:
                    if (searches(6)) {
                        row(32, "friends()", real.friends(), twin.friends());
                    }
                    break;
                case 33:
                    if (searches(6)) {
                        row(33, "states()", real.states(), twin.states());
                    }
                    break;
                case 34:
                    if (searches(4)) {
                        row(34, "estate(" + p + ")", real.estate(p), twin.estate(p));
                    }
                    break;
                case 35: row(35, "greedy(" + p + ")", real.greedy(p), twin.greedy(p)); break;
                case 36: row(36, "told(" + t + ", " + p + ", " + q + ")", real.told(t, p, q), twin.told(t, p, q)); break;
                case 37: row(37, "explains(" + t + ")", real.explains(t), twin.explains(t)); break;
                case 38: row(38, "steady(" + t + ")", real.steady(t), twin.steady(t)); break;
                case 39:
                    if (random.nextInt(isSmall ? 12 : 2) == 0) {
                        row(39, "bear(" + t + ")", real.bear(t), twin.bear(t));
                    }
                    break;
                case 40: row(40, "today()", real.today(), twin.today()); break;
                case 41: {
                    int v = random.nextInt();
                    row(41, "seed(" + v + ")", real.seed(v), twin.seed(v));
                    break;
                }
                case 42: row(42, "keep(" + i + ")", real.keep(i) ? 1 : 0, twin.keep(i) ? 1 : 0); break;
                case 43: row(43, "again(" + i + ")", real.again(i) ? 1 : 0, twin.again(i) ? 1 : 0); break;
                case 44:
                    for (int what = -1; what < 9; what++) {
                        row(44, "count(" + what + ")", real.count(what), twin.count(what));
                    }
                    break;
                case 45:
                    for (int k = -1; k < twin.row.size() + 2; k++) {
                        row(45, "row(" + k + ")", ask(45, k, 0), twin.ask(45, k, 0));
                    }
                    break;
                default:
            }
        }

        private boolean searches(int oneOf) {
            return random.nextInt(oneOf) == 0;
        }

        private long ask(int call, int a, int b) {
            try {
                return call == 4 ? real.of(a, b) : call == 5 ? real.thing(a, b) : real.row(a);
            } catch (NoSuchElementException e) {
                return Twin.THROWN;
            }
        }
    }

    private static final class Differs extends RuntimeException {
        private static final long serialVersionUID = 1;

        Differs(String message) {
            super(message);
        }
    }

    /** Makes texts that mostly are rules. */
    private static final class RuleMaker {
        static String make(Random random) {
            String[] plain = {"v", "c/3", "i*20", "v+f*30", "(v+f*20)/(1+s)", "v+c/9-h*5", "o*9-i*3+50", "v*f", "k*9+i",
                "v-h*9+c/5", "s*10+v", "100*(i>o)", "v/(1+q)+i", "c-v<30", "--i*-v+200", "(i<2)*v+f*9"};
            if (random.nextInt(3) != 0) {
                return plain[random.nextInt(plain.length)];
            }
            String text = expression(random, 0);
            return text.length() > 60 ? text.substring(0, 60) : text;
        }

        private static String expression(Random random, int depth) {
            StringBuilder text = new StringBuilder();
            int n = 1 + random.nextInt(4);
            for (int i = 0; i < n; i++) {
                if (i > 0) {
                    String signs = random.nextInt(5) == 0 ? "<>=" : "+-*/";
                    text.append(signs.charAt(random.nextInt(signs.length())));
                }
                for (int k = random.nextInt(6) == 0 ? random.nextInt(4) : 0; k > 0; k--) {
                    text.append('-');
                }
                int sort = random.nextInt(6);
                if (sort < 2) {
                    text.append(random.nextInt(random.nextBoolean() ? 10 : 1100));
                } else if (sort == 2 && depth < 6) {
                    text.append('(').append(expression(random, depth + 1)).append(')');
                } else {
                    text.append("iocvkhfqs".charAt(random.nextInt(9)));
                }
            }
            return text.toString();
        }
    }

    /** Who holds which half and who has what coin, as lists. */
    private static final class State {
        final List<Integer> holders;
        final List<Integer> coin;

        State(List<Integer> holders, List<Integer> coin) {
            this.holders = new ArrayList<>(holders);
            this.coin = new ArrayList<>(coin);
        }

        State copy() {
            return new State(holders, coin);
        }

        @Override
        public boolean equals(Object o) {
            return o instanceof State && ((State) o).holders.equals(holders) && ((State) o).coin.equals(coin);
        }

        @Override
        public int hashCode() {
            return 31 * holders.hashCode() + coin.hashCode();
        }
    }

    /** All that keep() keeps. */
    private static final class Kept {
        State state;
        Set<Integer> took;
        int today;
        Map<Integer, Integer> bonds;
        int luck;
        int people;
        int things;
    }

    /** What an order of sales brings. */
    private static final class Order {
        int sum;
        List<Integer> sales = new ArrayList<>();
    }

    private static final class Twin {
        static final long THROWN = 1L << 40;
        // Two that any line could have yet, be they there or not; no text has such signs.
        private static final char SOMEONE = 1000;
        private static final char ANOTHER = 1001;
        private static final String WHO = "[0-9" + SOMEONE + ANOTHER + "]";

        String text = "";
        String rule = "";
        List<Integer> values = new ArrayList<>();
        List<Integer> kinds = new ArrayList<>();
        List<Integer> holders = new ArrayList<>();
        List<Integer> coin = new ArrayList<>();
        Map<Integer, Integer> bonds = new HashMap<>();
        Set<Integer> took = new HashSet<>();
        int today;
        int luck = 1;
        int sort;
        int fee;
        List<Integer> row = new ArrayList<>();
        List<State> past = new ArrayList<>();
        List<int[]> book = new ArrayList<>();
        Kept[] kept = new Kept[2];

        int people() {
            return coin.size();
        }

        int halves() {
            return holders.size();
        }

        boolean isPerson(int p) {
            return p >= 0 && p < people();
        }

        boolean isThing(int t) {
            return t >= 0 && t < values.size();
        }

        boolean isHalf(int h) {
            return h >= 0 && h < halves();
        }

        int bond(int a, int b) {
            return bonds.getOrDefault(10 * Math.min(a, b) + Math.max(a, b), 0);
        }

        void bind(int a, int b, int is) {
            bonds.put(10 * Math.min(a, b) + Math.max(a, b), is);
        }

        State now() {
            return new State(holders, coin);
        }

        void become(State s) {
            holders = new ArrayList<>(s.holders);
            coin = new ArrayList<>(s.coin);
        }

        int set(Integer... numbers) {
            row = new ArrayList<>(Arrays.asList(numbers));
            return 0;
        }

        // ---- texts

        int sign(int v) {
            if (text.length() + 4 > 80) {
                return -1;
            }
            text += "" + (char) (v >>> 24) + (char) (v >>> 16 & 255) + (char) (v >>> 8 & 255) + (char) (v & 255);
            return text.length();
        }

        boolean end(int n) {
            if (n < 0 || n > text.length()) {
                return false;
            }
            text = text.substring(0, n);
            return true;
        }

        int market() {
            String told = text;
            text = "";
            if (told.isEmpty()) {
                return 0;
            }
            String first = told.length() > 76 ? told.substring(0, 76) : told;
            int fault = faultOfMarket(first, told.length() > 76);
            if (fault != -1) {
                return -1 - fault;
            }
            String[] lines = told.split(";");
            for (String line : lines) {
                bring(line);
            }
            past.clear();
            return lines.length;
        }

        private void bring(String line) {
            if (line.charAt(0) == 't') {
                String[] parts = line.substring(1).split("[-*,]");
                holders.add(Integer.parseInt(parts[0]));
                holders.add(Integer.parseInt(parts[1]));
                values.add(Integer.parseInt(parts[2]));
                kinds.add(Integer.parseInt(parts[3]));
            } else if (line.charAt(0) == 'f' || line.charAt(0) == 'q') {
                bind(line.charAt(1) - '0', line.charAt(3) - '0', line.charAt(0) == 'f' ? 1 : 2);
            } else {
                coin.add(Integer.parseInt(line));
            }
        }

        /** Where the first sign stands that no market could have there; -1 if it is one, and ends. */
        private int faultOfMarket(String first, boolean hasMore) {
            for (int n = 1; n <= first.length(); n++) {
                int zero = zeroAt(first.substring(0, n), n == first.length() ? "" : first.substring(n, n + 1));
                if (zero >= 0) {
                    return zero;
                }
                if (!canStandMarket(first.substring(0, n))) {
                    return n - 1;
                }
            }
            if (hasMore) {
                return 76;
            }
            return isMarket(first) ? -1 : first.length();
        }

        // A value of 0 is told as soon as no digit follows it, be it one or two digits.
        private int zeroAt(String start, String next) {
            boolean isOver = next.isEmpty() || !Character.isDigit(next.charAt(0)) || start.endsWith("*00");
            if (isOver && start.matches("(?s).*t[0-9]-[0-9]\\*0?0") && canStandMarket(start)) {
                return start.length() - 1;
            }
            return -1;
        }

        private boolean canStandMarket(String start) {
            String[] ends = {"", "0", "1", "A-B*1,1", "-B*1,1", "B*1,1", "*1,1", "1,1", ",1", "A-B", "-B", "B"};
            for (String end : ends) {
                if (isMarket(start + end.replace('A', SOMEONE).replace('B', ANOTHER))) {
                    return true;
                }
            }
            return start.endsWith(";") && canStandMarket(start.substring(0, start.length() - 1))
                    && isMarket(start.substring(0, start.length() - 1));
        }

        private boolean isMarket(String whole) {
            int people = people();
            int things = values.size();
            for (String line : whole.split(";", -1)) {
                if (line.matches("[0-9]{1,3}")) {
                    people++;
                } else if (line.matches("t" + WHO + "-" + WHO + "\\*[0-9]{1,2},[0-9]")) {
                    things++;
                    if (line.matches(".*\\*0?0,.*") || !areTwo(line, people)) {
                        return false;
                    }
                } else if (!line.matches("[fq]" + WHO + "-" + WHO) || !areTwo(line, people)) {
                    return false;
                }
                if (people > 8 || things > 10) {
                    return false;
                }
            }
            return true;
        }

        private boolean areTwo(String line, int people) {
            char a = line.charAt(1);
            char b = line.charAt(3);
            return (a >= SOMEONE || a - '0' < people) && (b >= SOMEONE || b - '0' < people) && a != b;
        }

        int rule() {
            String told = text;
            text = "";
            String first = told.length() > 40 ? told.substring(0, 40) : told;
            for (int n = 1; n <= first.length(); n++) {
                if (!canStandRule(first.substring(0, n))) {
                    return -1 - (n - 1);
                }
            }
            if (told.length() > 40) {
                return -1 - 40;
            }
            if (!first.isEmpty() && !isRule(first)) {
                return -1 - first.length();
            }
            rule = told;
            return 0;
        }

        private boolean canStandRule(String start) {
            for (String end : new String[] {"", "i", ")", "i)", "))", "i))", ")))", "i)))", "))))", "i))))"}) {
                if (isRule(start + end)) {
                    return true;
                }
            }
            return false;
        }

        private static final String SUM = "-*(?:[0-9]{1,3}|[iocvkhfqs])(?:[-+*/]-*(?:[0-9]{1,3}|[iocvkhfqs]))*";
        private static final String FLAT = SUM + "(?:[<>=]" + SUM + ")?";

        // Brackets give way to a letter from the inside out, at most 4 times; what is left must be flat.
        private static boolean isRule(String whole) {
            String left = whole;
            for (int i = 0; i < 4; i++) {
                left = left.replaceAll("(?<![0-9iocvkhfqs)])\\(" + FLAT + "\\)(?![0-9iocvkhfqs(])", "i");
            }
            return left.matches(FLAT);
        }

        // ---- worth

        int worth(State s, int half, int person) {
            return worth(s, half, person, s.holders.get(half ^ 1), half, half);
        }

        private int worth(State s, int half, int person, int other, int but, int butToo) {
            if (rule.isEmpty()) {
                return values.get(half / 2);
            }
            Map<Character, Integer> letters = new HashMap<>();
            int h = 0;
            int like = 0;
            for (int i = 0; i < halves(); i++) {
                if (i != but && i != butToo && s.holders.get(i) == person) {
                    h++;
                    like += kinds.get(i / 2).equals(kinds.get(half / 2)) ? 1 : 0;
                }
            }
            letters.put('i', person);
            letters.put('o', other);
            letters.put('c', s.coin.get(person));
            letters.put('v', values.get(half / 2));
            letters.put('k', kinds.get(half / 2));
            letters.put('h', h);
            letters.put('f', bond(person, other) == 1 ? 1 : 0);
            letters.put('q', bond(person, other) == 2 ? 1 : 0);
            letters.put('s', like);
            return Math.min(999, Math.max(0, value(rule, letters)));
        }

        // The weakest sign, and of equal ones the last one, is what a text is split at.
        private static int value(String e, Map<Character, Integer> letters) {
            for (String signs : new String[] {"<>=", "+-", "*/"}) {
                int depth = 0;
                for (int i = e.length() - 1; i > 0; i--) {
                    char c = e.charAt(i);
                    depth += c == ')' ? 1 : c == '(' ? -1 : 0;
                    boolean isBehindThing = Character.isLetterOrDigit(e.charAt(i - 1)) || e.charAt(i - 1) == ')';
                    if (depth == 0 && signs.indexOf(c) >= 0 && isBehindThing) {
                        return join(c, value(e.substring(0, i), letters), value(e.substring(i + 1), letters));
                    }
                }
            }
            if (e.charAt(0) == '-') {
                return -value(e.substring(1), letters);
            }
            if (e.charAt(0) == '(') {
                return value(e.substring(1, e.length() - 1), letters);
            }
            return Character.isDigit(e.charAt(0)) ? Integer.parseInt(e) : letters.get(e.charAt(0));
        }

        private static int join(char sign, int a, int b) {
            switch (sign) {
                case '<': return a < b ? 1 : 0;
                case '>': return a > b ? 1 : 0;
                case '=': return a == b ? 1 : 0;
                case '+': return a + b;
                case '-': return a - b;
                case '*': return a * b;
                default: return b == 0 ? 0 : a / b;
            }
        }

        // ---- the market

        long ask(int call, int a, int what) {
            if (call == 45) {
                return a >= 0 && a < row.size() ? row.get(a) : THROWN;
            }
            if (what < 0 || what > 4 || !(call == 4 ? isPerson(a) : isThing(a))) {
                return THROWN;
            }
            if (call == 5) {
                int one = holders.get(2 * a);
                int other = holders.get(2 * a + 1);
                return new int[] {values.get(a), kinds.get(a), one, other, bond(one, other) == 1 ? 1 : 0}[what];
            }
            int[] bits = new int[3];
            for (int i = 0; i < halves(); i++) {
                bits[0] |= holders.get(i) == a ? 1 << i : 0;
            }
            for (int i = 0; i < people(); i++) {
                bits[1] |= bond(a, i) == 1 ? 1 << i : 0;
                bits[2] |= bond(a, i) == 2 ? 1 << i : 0;
            }
            return new int[] {coin.get(a), bits[0], bits[1], bits[2], took.contains(a) ? 1 : 0}[what];
        }

        int between(int a, int b, int is) {
            if (!isPerson(a) || !isPerson(b) || a == b || is < 0 || is > 2) {
                return -1;
            }
            int was = bond(a, b);
            bind(a, b, is);
            return was;
        }

        int law(int what, int v) {
            if (what == 0 && v >= 0 && v <= 2) {
                int was = sort;
                sort = v;
                return was;
            }
            if (what == 1 && v >= 0 && v <= 99) {
                int was = fee;
                fee = v;
                return was;
            }
            return -1;
        }

        int sheet(int kind, int n, int f, int step) {
            if (kind < 0 || kind > 3 || n > 10) {
                return -1;
            }
            if (kind != 3 && n < 0) {
                return -2;
            }
            int sum = 0;
            int entry = f;
            for (int t = 0; t < values.size(); t++) {
                int v = kind == 0 ? (byte) entry : kind == 1 ? (short) entry : entry;
                v = kind == 3 || t >= n ? 1 : Math.max(1, Math.min(99, v));
                values.set(t, v);
                sum += v;
                entry += step;
            }
            return kind == 3 ? -3 : sum;
        }

        // ---- sales

        int worth(int half, int person) {
            if (!isHalf(half) || !isPerson(person)) {
                return -1;
            }
            return holders.get(half ^ 1) == person ? -2 : worth(now(), half, person);
        }

        /** Asked, bid, price; a fourth number if the sale can be. Nothing if the buyer holds one of both. */
        private int[] sale(State s, int half, int buyer) {
            if (s.holders.get(half) == buyer || s.holders.get(half ^ 1) == buyer) {
                return null;
            }
            int asked = worth(s, half, s.holders.get(half));
            int bid = worth(s, half, buyer);
            int price = sort == 0 ? asked : sort == 1 ? (asked + bid) / 2 : bid;
            boolean canBe = bid > asked && s.coin.get(buyer) >= price + fee;
            return canBe ? new int[] {asked, bid, price, 1} : new int[] {asked, bid, price};
        }

        private boolean canBe(State s, int half, int buyer) {
            if (!isHalf(half) || !isPerson(buyer)) {
                return false;
            }
            int[] sale = sale(s, half, buyer);
            return sale != null && sale.length == 4;
        }

        private int make(State s, int half, int buyer) {
            int price = sale(s, half, buyer)[2];
            int seller = s.holders.get(half);
            s.coin.set(buyer, s.coin.get(buyer) - price - fee);
            s.coin.set(seller, Math.min(999, s.coin.get(seller) + price));
            s.holders.set(half, buyer);
            return price;
        }

        private void remember() {
            past.add(now());
            if (past.size() > 30) {
                past.remove(0);
            }
        }

        private List<Integer> sales(State s) {
            List<Integer> all = new ArrayList<>();
            for (int told = 0; told < 10 * halves(); told++) {
                if (canBe(s, told / 10, told % 10)) {
                    all.add(told);
                }
            }
            return all;
        }

        int can(int half, int buyer) {
            if (!isHalf(half) || !isPerson(buyer)) {
                return -1;
            }
            int[] sale = sale(now(), half, buyer);
            if (sale == null) {
                return -2;
            }
            set(sale[0], sale[1], sale[2]);
            return sale.length == 4 ? 1 : 0;
        }

        int sell(int half, int buyer) {
            if (!isHalf(half) || !isPerson(buyer)) {
                return -1;
            }
            int[] sale = sale(now(), half, buyer);
            if (sale == null || sale.length < 4) {
                return sale == null ? -2 : -3;
            }
            return sellNow(half, buyer);
        }

        private int sellNow(int half, int buyer) {
            remember();
            State s = now();
            int price = make(s, half, buyer);
            become(s);
            return price;
        }

        int undo() {
            if (past.isEmpty()) {
                return -1;
            }
            become(past.remove(past.size() - 1));
            return past.size();
        }

        int judge(int n, int told) {
            if (n < 0 || n > 3) {
                return -1;
            }
            State s = now();
            int sum = 0;
            for (int i = 0; i < n; i++) {
                int one = told >> 10 * i & 1023;
                if (!canBe(s, one / 10, one % 10)) {
                    set(sum);
                    return i;
                }
                sum += make(s, one / 10, one % 10);
            }
            set(sum);
            return -2;
        }

        private int best(List<Integer> all) {
            int best = all.get(0);
            for (int told : all) {
                if (gap(told) > gap(best)) {
                    best = told;
                }
            }
            return best;
        }

        private int gap(int told) {
            int[] sale = sale(now(), told / 10, told % 10);
            return sale[1] - sale[0];
        }

        int open() {
            List<Integer> all = sales(now());
            set();
            if (!all.isEmpty()) {
                set(best(all), gap(best(all)));
            }
            return all.size();
        }

        int run(int how, int n) {
            if (how < 0 || how > 2 || n < 0 || n > 100) {
                return -1;
            }
            int made = 0;
            int sum = 0;
            List<Integer> all = sales(now());
            while (made < n && !all.isEmpty()) {
                int told = how == 0 ? best(all) : how == 1 ? all.get(0) : all.get(draw(all.size()));
                sum += sellNow(told / 10, told % 10);
                made++;
                all = sales(now());
            }
            set(all.isEmpty() ? 1 : 0, sum);
            return made;
        }

        private int draw(int n) {
            luck = luck * 1103515245 + 12345;
            return (int) ((luck & 0xffffffffL) / 65536 % n);
        }

        int partner(int half, int person) {
            if (!isHalf(half) || !isPerson(person) || people() < 3) {
                return -1;
            }
            int most = -1;
            int least = -1;
            int[] worths = new int[people()];
            for (int x = 0; x < people(); x++) {
                if (x != person) {
                    worths[x] = worth(now(), half, person, x, half, half ^ 1);
                    most = most < 0 || worths[x] > worths[most] ? x : most;
                    least = least < 0 || worths[x] < worths[least] ? x : least;
                }
            }
            set(most, least, worths[most], worths[least]);
            return worths[most] - worths[least];
        }

        // ---- days

        private boolean canUse(State s, int things, int person, boolean one, int a, int b) {
            Set<Integer> busy = new HashSet<>();
            if (person >= 0) {
                busy.add(person);
            }
            for (int t = 0; t < values.size(); t++) {
                if ((things >> t & 1) == 1) {
                    int x = s.holders.get(2 * t);
                    int y = s.holders.get(2 * t + 1);
                    boolean isNew = one && Math.min(x, y) == Math.min(a, b) && Math.max(x, y) == Math.max(a, b);
                    if (bond(x, y) == 2 || isNew || !busy.add(x) || !busy.add(y)) {
                        return false;
                    }
                }
            }
            return true;
        }

        private int sum(int things) {
            int sum = 0;
            for (int t = 0; t < values.size(); t++) {
                sum += (things >> t & 1) == 1 ? values.get(t) : 0;
            }
            return sum;
        }

        private int bestUses(State s, int shut, int person, boolean one, int a, int b) {
            int best = 0;
            for (int things = 1; things < 1 << values.size(); things++) {
                if (sum(things) > sum(best) && (things & shut) == 0 && canUse(s, things, person, one, a, b)) {
                    best = things;
                }
            }
            return best;
        }

        private int bestUses(State s) {
            return bestUses(s, 0, -1, false, 0, 0);
        }

        int day() {
            set(bestUses(now()));
            return sum(row.get(0));
        }

        int quarrel(int a, int b) {
            if (!isPerson(a) || !isPerson(b) || a == b || bond(a, b) == 2) {
                return -1;
            }
            return sum(bestUses(now())) - sum(bestUses(now(), 0, -1, true, a, b));
        }

        int bars(int t) {
            return isThing(t) ? sum(bestUses(now())) - sum(bestUses(now(), 1 << t, -1, false, 0, 0)) : -1;
        }

        int without(int p) {
            if (!isPerson(p)) {
                return -1;
            }
            set(bestUses(now(), 0, p, false, 0, 0));
            return sum(bestUses(now())) - sum(row.get(0));
        }

        int pair() {
            if (people() < 2) {
                return -2;
            }
            int most = -1;
            for (int a = 0; a < people(); a++) {
                for (int b = a + 1; b < people(); b++) {
                    int n = 0;
                    int bits = 0;
                    for (int t = 0; t < values.size(); t++) {
                        List<Integer> both = holders.subList(2 * t, 2 * t + 2);
                        if (both.contains(a) && both.contains(b)) {
                            n++;
                            bits += 1 << t;
                        }
                    }
                    if (n > most) {
                        most = n;
                        set(a, b, bits);
                    }
                }
            }
            return most;
        }

        int wealth(int p) {
            if (!isPerson(p)) {
                return -1;
            }
            int sum = coin.get(p);
            for (int h = 0; h < halves(); h++) {
                sum += holders.get(h) == p ? worth(now(), h, p) : 0;
            }
            return sum;
        }

        int richest() {
            if (people() == 0) {
                return -2;
            }
            int who = 0;
            int least = wealth(0);
            int sum = 0;
            for (int p = 0; p < people(); p++) {
                who = wealth(p) > wealth(who) ? p : who;
                least = Math.min(least, wealth(p));
                sum += wealth(p);
            }
            set(wealth(who), least, sum);
            return who;
        }

        private int share(int t) {
            int second = values.get(t) / 2;
            int first = values.get(t) - second;
            int x = holders.get(2 * t);
            int y = holders.get(2 * t + 1);
            coin.set(x, Math.min(999, coin.get(x) + first));
            coin.set(y, Math.min(999, coin.get(y) + second));
            return first;
        }

        int use(int t) {
            if (!isThing(t)) {
                return -1;
            }
            int x = holders.get(2 * t);
            int y = holders.get(2 * t + 1);
            if (bond(x, y) == 2) {
                return -2;
            }
            if (took.contains(x) || took.contains(y)) {
                return -3;
            }
            past.clear();
            took.add(x);
            took.add(y);
            return share(t);
        }

        int days(int n) {
            if (n < 0 || n > 100) {
                return -1;
            }
            int sum = 0;
            past.clear();
            for (int i = 0; i < n; i++) {
                int uses = bestUses(now());
                for (int t = 0; t < values.size(); t++) {
                    if ((uses >> t & 1) == 1) {
                        share(t);
                        sum += values.get(t);
                    }
                }
                today++;
                took.clear();
            }
            return sum;
        }

        int feast(int things) {
            if (things < 0 || things >= 1 << values.size()) {
                return -1;
            }
            int barred = -1;
            int one = -1;
            int other = -1;
            for (int a = values.size() - 1; a >= 0; a--) {
                if ((things >> a & 1) == 1 && bond(holders.get(2 * a), holders.get(2 * a + 1)) == 2) {
                    barred = a;
                }
                for (int b = values.size() - 1; b > a; b--) {
                    Set<Integer> both = new HashSet<>(holders.subList(2 * a, 2 * a + 2));
                    both.addAll(holders.subList(2 * b, 2 * b + 2));
                    if ((things >> a & 1) == 1 && (things >> b & 1) == 1 && both.size() < 4) {
                        one = a;
                        other = b;
                    }
                }
            }
            if (barred < 0 && one < 0) {
                return 1;
            }
            set(barred, one, other);
            return 0;
        }

        // ---- searches

        /** All states and to each the least of its shortest paths; nothing if there are too many. */
        private Map<State, List<Integer>> spread(int things, boolean areSwaps) {
            Map<State, List<Integer>> all = new LinkedHashMap<>();
            Map<State, List<Integer>> layer = new LinkedHashMap<>();
            layer.put(now(), new ArrayList<>());
            while (!layer.isEmpty()) {
                all.putAll(layer);
                if (all.size() > 3000) {
                    return null;
                }
                Map<State, List<Integer>> next = new LinkedHashMap<>();
                for (Map.Entry<State, List<Integer>> entry : layer.entrySet()) {
                    for (Map.Entry<Integer, State> step : steps(entry.getKey(), things, areSwaps).entrySet()) {
                        if (!all.containsKey(step.getValue())) {
                            List<Integer> path = new ArrayList<>(entry.getValue());
                            path.add(step.getKey());
                            next.merge(step.getValue(), path, (x, y) -> compare(x, y) <= 0 ? x : y);
                        }
                    }
                    if (next.size() > 3000) {
                        return null;
                    }
                }
                layer = next;
            }
            return all;
        }

        private static int compare(List<Integer> x, List<Integer> y) {
            for (int i = 0; i < x.size() && i < y.size(); i++) {
                if (!x.get(i).equals(y.get(i))) {
                    return Integer.compare(x.get(i), y.get(i));
                }
            }
            return Integer.compare(x.size(), y.size());
        }

        private Map<Integer, State> steps(State s, int things, boolean areSwaps) {
            Map<Integer, State> steps = new HashMap<>();
            for (int a = 0; a < halves(); a++) {
                for (int b = a + 1; areSwaps && b < halves(); b++) {
                    State then = swapped(s, a, b);
                    if (then != null) {
                        steps.put(100 * a + b, then);
                    }
                }
                for (int p = 0; !areSwaps && p < people(); p++) {
                    if ((things >> a / 2 & 1) == 1 && s.holders.get(a) != p && s.holders.get(a ^ 1) != p) {
                        State then = s.copy();
                        then.holders.set(a, p);
                        steps.put(10 * a + p, then);
                    }
                }
            }
            return steps;
        }

        private State swapped(State s, int a, int b) {
            State then = s.copy();
            then.holders.set(a, s.holders.get(b));
            then.holders.set(b, s.holders.get(a));
            boolean holds = !then.holders.get(a).equals(then.holders.get(a ^ 1))
                    && !then.holders.get(b).equals(then.holders.get(b ^ 1));
            return a / 2 != b / 2 && !s.equals(then) && holds ? then : null;
        }

        private int tellPath(List<Integer> path) {
            row.addAll(path.subList(0, Math.min(10, path.size())));
            return path.size();
        }

        private List<Integer> shortest(List<List<Integer>> paths) {
            List<Integer> best = null;
            for (List<Integer> path : paths) {
                if (best == null || path.size() < best.size() || path.size() == best.size() && compare(path, best) < 0) {
                    best = path;
                }
            }
            return best;
        }

        int prepare(int things) {
            if (things < 0 || things >= 1 << values.size()) {
                return -1;
            }
            Map<State, List<Integer>> all = spread(things, false);
            if (all == null) {
                return -3;
            }
            List<List<Integer>> ends = new ArrayList<>();
            for (Map.Entry<State, List<Integer>> entry : all.entrySet()) {
                if (canUse(entry.getKey(), things, -1, false, 0, 0)) {
                    ends.add(entry.getValue());
                }
            }
            if (ends.isEmpty()) {
                return -2;
            }
            set();
            return tellPath(shortest(ends));
        }

        private int together(State s) {
            int bits = 0;
            for (int t = 0; t < values.size(); t++) {
                bits |= bond(s.holders.get(2 * t), s.holders.get(2 * t + 1)) == 1 ? 1 << t : 0;
            }
            return bits;
        }

        private int gain(int a, int b) {
            State then = swapped(now(), a, b);
            return worth(then, b, then.holders.get(b)) - worth(now(), a, holders.get(a));
        }

        int maySwap(int a, int b) {
            if (!isHalf(a) || !isHalf(b) || a == b) {
                return -1;
            }
            set();
            if (swapped(now(), a, b) == null) {
                return 0;
            }
            set(gain(a, b), gain(b, a));
            return row.get(0) > 0 && row.get(1) > 0 ? 2 : 1;
        }

        int swap(int a, int b) {
            if (!isHalf(a) || !isHalf(b) || a == b) {
                return -1;
            }
            State then = swapped(now(), a, b);
            if (then == null) {
                return -2;
            }
            remember();
            become(then);
            return Integer.bitCount(together(then));
        }

        private List<Integer> goods(State s) {
            State kept = now();
            become(s);
            List<Integer> all = new ArrayList<>();
            for (int a = 0; a < halves(); a++) {
                for (int b = a + 1; b < halves(); b++) {
                    if (swapped(s, a, b) != null && gain(a, b) > 0 && gain(b, a) > 0) {
                        all.add(100 * a + b);
                    }
                }
            }
            become(kept);
            return all;
        }

        int good() {
            List<Integer> all = goods(now());
            set();
            if (!all.isEmpty()) {
                set(all.get(0));
            }
            return all.size();
        }

        int rests(int n) {
            if (n < 0 || n > 100) {
                return -1;
            }
            int made = 0;
            List<Integer> all = goods(now());
            while (made < n && !all.isEmpty()) {
                swap(all.get(0) / 100, all.get(0) % 100);
                made++;
                all = goods(now());
            }
            set(all.isEmpty() ? 1 : 0, Integer.bitCount(together(now())));
            return made;
        }

        int friends() {
            Map<State, List<Integer>> all = spread(0, true);
            if (all == null) {
                return -3;
            }
            int most = -1;
            List<List<Integer>> ends = new ArrayList<>();
            for (Map.Entry<State, List<Integer>> entry : all.entrySet()) {
                int n = Integer.bitCount(together(entry.getKey()));
                if (n > most) {
                    most = n;
                    ends.clear();
                }
                if (n == most) {
                    ends.add(entry.getValue());
                }
            }
            set(most);
            return tellPath(shortest(ends));
        }

        int states() {
            Map<State, List<Integer>> all = spread(0, true);
            if (all == null) {
                return -3;
            }
            int resting = 0;
            int most = 0;
            for (State s : all.keySet()) {
                resting += goods(s).isEmpty() ? 1 : 0;
                most = Math.max(most, sum(bestUses(s)));
            }
            set(resting, most);
            return all.size();
        }

        int estate(int person) {
            if (!isPerson(person)) {
                return -1;
            }
            Map<State, Order> all = new HashMap<>();
            Order best = order(now(), person, all);
            if (best == null) {
                return -3;
            }
            set();
            tellPath(best.sales);
            return best.sum;
        }

        private Order order(State s, int person, Map<State, Order> all) {
            if (all.containsKey(s)) {
                return all.get(s);
            }
            if (all.size() > 3000) {
                return null;
            }
            all.put(s, new Order());
            Order best = null;
            for (int told : sales(s)) {
                if (s.holders.get(told / 10) == person) {
                    State then = s.copy();
                    int price = make(then, told / 10, told % 10);
                    Order rest = order(then, person, all);
                    if (rest == null) {
                        return null;
                    }
                    Order whole = new Order();
                    whole.sum = price + rest.sum;
                    whole.sales.add(told);
                    whole.sales.addAll(rest.sales);
                    if (best == null || isBetter(whole, best)) {
                        best = whole;
                    }
                }
            }
            if (all.size() > 3000) {
                return null;
            }
            all.put(s, best == null ? new Order() : best);
            return all.get(s);
        }

        private static boolean isBetter(Order x, Order y) {
            if (x.sum != y.sum) {
                return x.sum > y.sum;
            }
            if (x.sales.size() != y.sales.size()) {
                return x.sales.size() < y.sales.size();
            }
            return compare(x.sales, y.sales) < 0;
        }

        int greedy(int person) {
            if (!isPerson(person)) {
                return -1;
            }
            State s = now();
            int sum = 0;
            int made = 0;
            while (true) {
                int best = -1;
                for (int told : sales(s)) {
                    if (s.holders.get(told / 10) == person
                            && (best < 0 || sale(s, told / 10, told % 10)[2] > sale(s, best / 10, best % 10)[2])) {
                        best = told;
                    }
                }
                if (best < 0) {
                    break;
                }
                sum += make(s, best / 10, best % 10);
                made++;
            }
            int left = 0;
            for (int h : s.holders) {
                left += h == person ? 1 : 0;
            }
            set(made, left);
            return sum;
        }

        // ---- a book of uses, calves, kept

        int told(int t, int a, int b) {
            if (!isThing(t) || !isPerson(a) || !isPerson(b) || a == b || book.size() == 16) {
                return -1;
            }
            book.add(new int[] {t, a, b});
            return book.size();
        }

        int explains(int t) {
            if (!isThing(t)) {
                return -1;
            }
            List<int[]> uses = new ArrayList<>();
            int bits = 1 << holders.get(2 * t) | 1 << holders.get(2 * t + 1);
            for (int[] use : book) {
                if (use[0] == t) {
                    uses.add(use);
                    bits |= 1 << use[1] | 1 << use[2];
                }
            }
            // The cost of either way in which both halves can have been held at a use.
            Map<List<Integer>, Integer> costs = null;
            for (int i = 0; i <= uses.size(); i++) {
                Map<List<Integer>, Integer> next = new HashMap<>();
                List<List<Integer>> ways = new ArrayList<>();
                if (i < uses.size()) {
                    ways.add(Arrays.asList(uses.get(i)[1], uses.get(i)[2]));
                    ways.add(Arrays.asList(uses.get(i)[2], uses.get(i)[1]));
                } else {
                    ways.add(new ArrayList<>(holders.subList(2 * t, 2 * t + 2)));
                }
                for (List<Integer> way : ways) {
                    int cost = costs == null ? 0 : 1000;
                    if (costs != null) {
                        for (Map.Entry<List<Integer>, Integer> e : costs.entrySet()) {
                            cost = Math.min(cost, e.getValue() + fewest(e.getKey(), way));
                        }
                    }
                    next.put(way, cost);
                }
                costs = next;
            }
            set(uses.size(), bits);
            return costs.values().iterator().next();
        }

        /** The fewest sales from one way of holding to another, found layer by layer. */
        private int fewest(List<Integer> from, List<Integer> to) {
            Set<List<Integer>> layer = new HashSet<>();
            layer.add(from);
            for (int n = 0; n < 5; n++) {
                if (layer.contains(to)) {
                    return n;
                }
                Set<List<Integer>> next = new HashSet<>();
                for (List<Integer> way : layer) {
                    for (int p = 0; p < people(); p++) {
                        if (!way.contains(p)) {
                            next.add(Arrays.asList(p, way.get(1)));
                            next.add(Arrays.asList(way.get(0), p));
                        }
                    }
                }
                layer = next;
            }
            return 1000;
        }

        int steady(int t) {
            if (!isThing(t)) {
                return -1;
            }
            int bits = 0;
            for (int p : holders.subList(2 * t, 2 * t + 2)) {
                boolean isSteady = true;
                for (int[] use : book) {
                    isSteady &= use[0] != t || use[1] == p || use[2] == p;
                }
                bits |= isSteady ? 1 << p : 0;
            }
            return bits;
        }

        int bear(int t) {
            if (!isThing(t) || values.size() == 10) {
                return -1;
            }
            past.clear();
            holders.add(holders.get(2 * t + 1));
            holders.add(holders.get(2 * t));
            kinds.add(kinds.get(t));
            values.add(Math.max(1, values.get(t) / 2));
            return values.size() - 1;
        }

        int today() {
            return today;
        }

        int seed(int v) {
            int was = luck;
            luck = v;
            return was;
        }

        boolean keep(int i) {
            if (i < 0 || i > 1) {
                return false;
            }
            Kept k = new Kept();
            k.state = now();
            k.took = new HashSet<>(took);
            k.today = today;
            k.bonds = new HashMap<>(bonds);
            k.luck = luck;
            k.people = people();
            k.things = values.size();
            kept[i] = k;
            return true;
        }

        boolean again(int i) {
            if (i < 0 || i > 1 || kept[i] == null || kept[i].people != people() || kept[i].things != values.size()) {
                return false;
            }
            past.clear();
            become(kept[i].state);
            took = new HashSet<>(kept[i].took);
            today = kept[i].today;
            bonds = new HashMap<>(kept[i].bonds);
            luck = kept[i].luck;
            return true;
        }

        int count(int what) {
            int sum = 0;
            for (int c : coin) {
                sum += c;
            }
            int[] all = {people(), values.size(), together(now()), past.size(), book.size(), sum, row.size(), text.length()};
            return what >= 0 && what < all.length ? all[what] : -1;
        }
    }
}
