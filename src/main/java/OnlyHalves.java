import java.util.Arrays;
import java.util.NoSuchElementException;

/** A market in which each thing is always two people's, who must agree to use it. */
public final class OnlyHalves {
    public static final int NONE = -1;

    // What -2 and -3 mean, where no promise gives them another sense.
    private static final int BARRED = -2;
    private static final int FAILED = -3;
    private static final int ALL_CAN_BE = -2;
    private static final int BELOW_ZERO = -2;
    private static final int MISSING = -3;
    private static final int MOST_PEOPLE = 8;
    private static final int MOST_THINGS = 10;
    private static final int MOST_COIN = 999;
    private static final int MOST_VALUE = 99;
    private static final int MOST_FEE = 99;
    private static final int MOST_TURNS = 100;
    private static final int MOST_TOLD = 16;
    private static final int MOST_KEPT = 2;
    private static final int MOST_JUDGED = 3;
    private static final int MOST_STEPS = 10;
    private static final int MOST_STATES = 3000;
    private static final int FRIENDS = 1;
    private static final int QUARREL = 2;

    private final Text text;
    private final Market market;
    private final Market then;
    private final Market[] kept;
    private final boolean[] isKept;
    private final Rule rule;
    private final RuleReader ruleReader;
    private final MarketReader marketReader;
    private final Trade trade;
    private final Past past;
    private final Day plan;
    private final Book book;
    private final int[] numbers;
    private int numbersTold;
    private Search search;

    public OnlyHalves() {
        int[] values = new int[MOST_THINGS];
        int[] kinds = new int[MOST_THINGS];
        text = new Text();
        market = new Market(values, kinds);
        then = new Market(values, kinds);
        kept = new Market[MOST_KEPT];
        for (int i = 0; i < MOST_KEPT; i++) {
            kept[i] = new Market(values, kinds);
        }
        isKept = new boolean[MOST_KEPT];
        Rule known = new Rule();
        rule = known;
        trade = new Trade(known);
        ruleReader = new RuleReader();
        marketReader = new MarketReader();
        past = new Past();
        plan = new Day();
        book = new Book();
        numbers = new int[MOST_STEPS + 1];
    }

    // ---- the market

    public int sign(int v) {
        return text.addFour(v) ? text.length() : NONE;
    }

    public boolean end(int n) {
        return text.cut(n);
    }

    public int market() {
        int lines = marketReader.read(text, market);
        text.cut(0);
        if (lines > 0) {
            past.forget();
        }
        return lines;
    }

    public int rule() {
        int answer = ruleReader.read(text, rule);
        text.cut(0);
        return answer;
    }

    public int of(int person, int what) throws NoSuchElementException {
        if (!market.hasPerson(person)) {
            throw new NoSuchElementException("no such person");
        }
        switch (what) {
            case 0:
                return market.coin(person);
            case 1:
                return market.halvesOf(person);
            case 2:
                return market.friendsOf(person);
            case 3:
                return market.foesOf(person);
            case 4:
                return market.took >>> person & 1;
            default:
                throw new NoSuchElementException("nothing such of a person");
        }
    }

    public int thing(int thing, int what) throws NoSuchElementException {
        if (!market.hasThing(thing)) {
            throw new NoSuchElementException("no such thing");
        }
        switch (what) {
            case 0:
                return market.value(thing);
            case 1:
                return market.kind(thing);
            case 2:
                return market.holder(2 * thing);
            case 3:
                return market.holder(2 * thing + 1);
            case 4:
                return market.isTogether(thing) ? 1 : 0;
            default:
                throw new NoSuchElementException("nothing such of a thing");
        }
    }

    public int between(int one, int other, int is) {
        if (!areTwo(one, other) || is < 0 || is > QUARREL) {
            return NONE;
        }
        int was = market.bond(one, other);
        market.bind(one, other, is);
        return was;
    }

    public int law(int what, int v) {
        if (what == 0 && v >= 0 && v <= Trade.BY_BID) {
            int was = trade.sort;
            trade.sort = v;
            return was;
        }
        if (what == 1 && v >= 0 && v <= MOST_FEE) {
            int was = trade.fee;
            trade.fee = v;
            return was;
        }
        return NONE;
    }

    public int sheet(int kind, int n, int f, int step) {
        if (kind < 0 || kind > 3 || n > MOST_THINGS) {
            return NONE;
        }
        if (kind == 3) {
            market.setAllValues(1);
            return MISSING;
        }
        if (n < 0) {
            return BELOW_ZERO;
        }
        int sum = 0;
        for (int thing = 0; thing < market.things; thing++) {
            int value = thing < n ? entry(kind, f + thing * step) : 1;
            market.setValue(thing, value);
            sum += market.value(thing);
        }
        return sum;
    }

    private static int entry(int kind, int told) {
        if (kind == 0) {
            return (byte) told;
        }
        return kind == 1 ? (short) told : told;
    }

    // ---- sales

    public int worth(int half, int person) {
        if (!areHalfAndPerson(half, person)) {
            return NONE;
        }
        if (market.holder(half ^ 1) == person) {
            return BARRED;
        }
        return rule.worthTo(market, half, person, market.holder(half ^ 1));
    }

    public int can(int half, int buyer) {
        if (!areHalfAndPerson(half, buyer)) {
            return NONE;
        }
        if (!market.holdsNeither(half, buyer)) {
            return BARRED;
        }
        boolean canBe = trade.look(market, half, buyer);
        clearRow();
        tell(trade.asked);
        tell(trade.bid);
        tell(trade.price);
        return canBe ? 1 : 0;
    }

    public int sell(int half, int buyer) {
        if (!areHalfAndPerson(half, buyer)) {
            return NONE;
        }
        if (!market.holdsNeither(half, buyer)) {
            return BARRED;
        }
        return makeSale(half, buyer) ? trade.price : FAILED;
    }

    public int undo() {
        return past.takeBack(market) ? past.size() : NONE;
    }

    public int judge(int n, int told) {
        if (n < 0 || n > MOST_JUDGED) {
            return NONE;
        }
        then.copy(market);
        int sum = 0;
        int answer = ALL_CAN_BE;
        for (int i = 0; i < n && answer == ALL_CAN_BE; i++) {
            if (trade.makeTold(then, told >>> 10 * i & 1023)) {
                sum += trade.price;
            } else {
                answer = i;
            }
        }
        clearRow();
        tell(sum);
        return answer;
    }

    public int open() {
        trade.survey(market);
        clearRow();
        if (trade.found > 0) {
            tell(trade.best);
            tell(trade.bestBy);
        }
        return trade.found;
    }

    public int run(int sort, int n) {
        if (sort < 0 || sort > 2 || n < 0 || n > MOST_TURNS) {
            return NONE;
        }
        int sum = 0;
        int made = 0;
        trade.survey(market);
        while (made < n && trade.found > 0) {
            int sale = choose(sort);
            if (!makeSale(sale / 10, sale % 10)) {
                break;
            }
            sum += trade.price;
            made++;
            trade.survey(market);
        }
        clearRow();
        tell(trade.found == 0 ? 1 : 0);
        tell(sum);
        return made;
    }

    private int choose(int sort) {
        if (sort == 0) {
            return trade.best;
        }
        return trade.numberOf(market, sort == 1 ? 0 : market.draw(trade.found));
    }

    private boolean makeSale(int half, int buyer) {
        if (!trade.look(market, half, buyer)) {
            return false;
        }
        past.note(market);
        trade.make(market, half, buyer);
        return true;
    }

    public int partner(int half, int person) {
        if (!areHalfAndPerson(half, person) || market.people < 3) {
            return NONE;
        }
        int most = NONE;
        int least = NONE;
        int high = NONE;
        int low = MOST_COIN + 1;
        for (int other = 0; other < market.people; other++) {
            if (other == person) {
                continue;
            }
            int worth = rule.worthTo(market, half, person, other);
            if (worth > high) {
                high = worth;
                most = other;
            }
            if (worth < low) {
                low = worth;
                least = other;
            }
        }
        clearRow();
        tell(most);
        tell(least);
        tell(high);
        tell(low);
        return high - low;
    }

    // ---- days

    public int day() {
        int earned = plan.mostOf(market, 0, 0, NONE);
        clearRow();
        tell(plan.used);
        return earned;
    }

    public int quarrel(int one, int other) {
        if (!areTwo(one, other) || market.bond(one, other) == QUARREL) {
            return NONE;
        }
        then.copy(market);
        then.bind(one, other, QUARREL);
        return plan.mostOf(market, 0, 0, NONE) - plan.mostOf(then, 0, 0, NONE);
    }

    public int bars(int thing) {
        if (!market.hasThing(thing)) {
            return NONE;
        }
        return plan.mostOf(market, 0, 0, NONE) - plan.mostOf(market, 1 << thing, 0, NONE);
    }

    public int without(int person) {
        if (!market.hasPerson(person)) {
            return NONE;
        }
        int all = plan.mostOf(market, 0, 0, NONE);
        int left = plan.mostOf(market, 0, 1 << person, NONE);
        clearRow();
        tell(plan.used);
        return all - left;
    }

    public int pair() {
        if (market.people < 2) {
            return BARRED;
        }
        int most = NONE;
        clearRow();
        for (int one = 0; one < market.people; one++) {
            for (int other = one + 1; other < market.people; other++) {
                int shared = market.sharedBy(one, other);
                if (Integer.bitCount(shared) > most) {
                    most = Integer.bitCount(shared);
                    clearRow();
                    tell(one);
                    tell(other);
                    tell(shared);
                }
            }
        }
        return most;
    }

    public int wealth(int person) {
        return market.hasPerson(person) ? wealthOf(person) : NONE;
    }

    private int wealthOf(int person) {
        int sum = market.coin(person);
        for (int half = 0; half < market.halves(); half++) {
            if (market.holder(half) == person) {
                sum += rule.worthTo(market, half, person, market.holder(half ^ 1));
            }
        }
        return sum;
    }

    public int richest() {
        if (market.people == 0) {
            return BARRED;
        }
        int who = 0;
        int most = wealthOf(0);
        int least = most;
        int sum = most;
        for (int person = 1; person < market.people; person++) {
            int has = wealthOf(person);
            sum += has;
            least = Math.min(least, has);
            if (has > most) {
                most = has;
                who = person;
            }
        }
        clearRow();
        tell(most);
        tell(least);
        tell(sum);
        return who;
    }

    public int use(int thing) {
        if (!market.hasThing(thing)) {
            return NONE;
        }
        if (market.isBarred(thing)) {
            return BARRED;
        }
        if ((market.holders(thing) & market.took) != 0) {
            return FAILED;
        }
        past.forget();
        market.share(thing);
        market.took |= market.holders(thing);
        return market.value(thing) - market.value(thing) / 2;
    }

    public int days(int n) {
        if (n < 0 || n > MOST_TURNS) {
            return NONE;
        }
        past.forget();
        int earned = plan.mostOf(market, 0, 0, NONE);
        for (int i = 0; i < n; i++) {
            for (int thing = 0; thing < market.things; thing++) {
                if ((plan.used >>> thing & 1) == 1) {
                    market.share(thing);
                }
            }
            market.today++;
            market.took = 0;
        }
        return n * earned;
    }

    public int feast(int things) {
        if (!market.hasThings(things)) {
            return NONE;
        }
        int barred = market.firstBarred(things);
        int clash = market.firstClash(things);
        if (barred == NONE && clash == NONE) {
            return 1;
        }
        clearRow();
        tell(barred);
        tell(clash == NONE ? NONE : clash / MOST_THINGS);
        tell(clash == NONE ? NONE : clash % MOST_THINGS);
        return 0;
    }

    public int prepare(int things) {
        if (!market.hasThings(things)) {
            return NONE;
        }
        Search found = searching();
        if (!found.spreadGifts(market, things)) {
            return FAILED;
        }
        int state = found.firstFeast(things);
        if (state == NONE) {
            return BARRED;
        }
        clearRow();
        return tellPath(found, found.tracePath(state));
    }

    // ---- swaps

    public int maySwap(int one, int other) {
        if (!areTwoHalves(one, other)) {
            return NONE;
        }
        clearRow();
        if (!trade.allows(market, one, other)) {
            return 0;
        }
        int gain = trade.gain(market, one, other);
        int gainToo = trade.gain(market, other, one);
        tell(gain);
        tell(gainToo);
        return gain > 0 && gainToo > 0 ? 2 : 1;
    }

    public int swap(int one, int other) {
        if (!areTwoHalves(one, other)) {
            return NONE;
        }
        if (!trade.allows(market, one, other)) {
            return BARRED;
        }
        past.note(market);
        market.exchange(one, other);
        return market.countTogether();
    }

    public int good() {
        int found = trade.countGood(market);
        clearRow();
        if (found > 0) {
            tell(trade.firstGood(market));
        }
        return found;
    }

    public int rests(int n) {
        if (n < 0 || n > MOST_TURNS) {
            return NONE;
        }
        int made = 0;
        int swap = trade.firstGood(market);
        while (made < n && swap != NONE) {
            past.note(market);
            market.exchange(swap / 100, swap % 100);
            made++;
            swap = trade.firstGood(market);
        }
        clearRow();
        tell(swap == NONE ? 1 : 0);
        tell(market.countTogether());
        return made;
    }

    public int friends() {
        Search found = searching();
        if (!found.spreadSwaps(market)) {
            return FAILED;
        }
        int state = found.firstFriendliest();
        clearRow();
        tell(found.together);
        return tellPath(found, found.tracePath(state));
    }

    public int states() {
        Search found = searching();
        if (!found.spreadSwaps(market)) {
            return FAILED;
        }
        clearRow();
        tell(found.countResting());
        tell(found.mostOfAny(plan));
        return found.size();
    }

    // ---- an estate

    public int estate(int person) {
        if (!market.hasPerson(person)) {
            return NONE;
        }
        Search found = searching();
        if (!found.spreadEstate(market, person)) {
            return FAILED;
        }
        int most = found.weighEstate(person);
        clearRow();
        tellPath(found, found.traceEstate());
        return most;
    }

    public int greedy(int person) {
        if (!market.hasPerson(person)) {
            return NONE;
        }
        then.copy(market);
        int sum = 0;
        int made = 0;
        int sale = trade.dearest(then, person);
        while (made < MOST_THINGS && sale != NONE && trade.makeTold(then, sale)) {
            sum += trade.price;
            made++;
            sale = trade.dearest(then, person);
        }
        clearRow();
        tell(made);
        tell(Integer.bitCount(then.halvesOf(person)));
        return sum;
    }

    // ---- a book of uses

    public int told(int thing, int one, int other) {
        if (!market.hasThing(thing) || !areTwo(one, other)) {
            return NONE;
        }
        return book.add(thing, 1 << one | 1 << other) ? book.size() : NONE;
    }

    public int explains(int thing) {
        if (!market.hasThing(thing)) {
            return NONE;
        }
        int sales = book.readSales(thing, market.holders(thing));
        clearRow();
        tell(book.uses);
        tell(book.everHeld);
        return sales;
    }

    public int steady(int thing) {
        if (!market.hasThing(thing)) {
            return NONE;
        }
        return book.steadyOf(thing, market.holders(thing));
    }

    // ---- calves

    public int bear(int thing) {
        if (!market.hasThing(thing) || market.things >= MOST_THINGS) {
            return NONE;
        }
        past.forget();
        int calf = market.things;
        int value = Math.max(1, market.value(thing) / 2);
        int first = market.holder(2 * thing + 1);
        market.addThing(first, market.holder(2 * thing), value, market.kind(thing));
        return calf;
    }

    // ---- kept

    public int today() {
        return market.today;
    }

    public int seed(int v) {
        int was = market.luck;
        market.luck = v;
        return was;
    }

    public boolean keep(int i) {
        if (i < 0 || i >= kept.length || i >= isKept.length || kept[i] == null) {
            return false;
        }
        kept[i].copy(market);
        isKept[i] = true;
        return true;
    }

    public boolean again(int i) {
        if (i < 0 || i >= kept.length || i >= isKept.length || kept[i] == null) {
            return false;
        }
        if (!isKept[i] || kept[i].people != market.people || kept[i].things != market.things) {
            return false;
        }
        past.forget();
        market.copy(kept[i]);
        return true;
    }

    public int count(int what) {
        switch (what) {
            case 0:
                return market.people;
            case 1:
                return market.things;
            case 2:
                return market.togetherBits();
            case 3:
                return past.size();
            case 4:
                return book.size();
            case 5:
                return market.coinOfAll();
            case 6:
                return numbersTold;
            case 7:
                return text.length();
            default:
                return NONE;
        }
    }

    public int row(int i) throws NoSuchElementException {
        if (i < 0 || i >= numbersTold || i >= numbers.length) {
            throw new NoSuchElementException("no such number in the row");
        }
        return numbers[i];
    }

    private void clearRow() {
        numbersTold = 0;
    }

    private void tell(int number) {
        if (numbersTold >= 0 && numbersTold < numbers.length) {
            numbers[numbersTold] = number;
            numbersTold++;
        }
    }

    private int tellPath(Search found, int steps) {
        for (int i = 0; i < steps && i < MOST_STEPS; i++) {
            tell(found.pathAt(i));
        }
        return steps;
    }

    // Most objects never search, and its rows are by far the largest.
    private Search searching() {
        if (search == null) {
            search = new Search(trade, then);
        }
        return search;
    }

    private boolean areTwo(int one, int other) {
        return market.hasPerson(one) && market.hasPerson(other) && one != other;
    }

    private boolean areTwoHalves(int one, int other) {
        return market.hasHalf(one) && market.hasHalf(other) && one != other;
    }

    private boolean areHalfAndPerson(int half, int person) {
        return market.hasHalf(half) && market.hasPerson(person);
    }

    /** The signs that are told but not read yet, and how far a reader has come in them. */
    private static final class Text {
        private static final int MOST_SIGNS = 80;

        private final int[] signs = new int[MOST_SIGNS];
        private int length;
        private int limit;
        private int at;

        int length() {
            return length;
        }

        boolean addFour(int v) {
            if (length < 0 || length > signs.length - 4) {
                return false;
            }
            for (int i = 0; i < 4; i++) {
                signs[length + i] = v >>> 24 - 8 * i & 255;
            }
            length += 4;
            return true;
        }

        boolean cut(int n) {
            if (n < 0 || n > length) {
                return false;
            }
            length = n;
            return true;
        }

        void startReading(int most) {
            at = 0;
            limit = Math.min(length, most);
        }

        int at() {
            return at;
        }

        boolean isAtEnd() {
            return at >= limit;
        }

        boolean hasMore() {
            return length > limit;
        }

        int peek() {
            return at >= 0 && at < limit && at < signs.length ? signs[at] : NONE;
        }

        void step() {
            at++;
        }

        void stepBack() {
            at--;
        }

        boolean takes(int sign) {
            if (peek() != sign) {
                return false;
            }
            at++;
            return true;
        }

        /** The number of at most so many digits; NONE, and no step, without one. */
        int number(int most) {
            int number = NONE;
            for (int i = 0; i < most; i++) {
                int digit = peek() - '0';
                if (digit < 0 || digit > 9) {
                    break;
                }
                number = number == NONE ? digit : 10 * number + digit;
                at++;
            }
            return number;
        }
    }

    /** All that one moment of the market is; what things are is shared with its other moments. */
    private static final class Market {
        private final int[] values;
        private final int[] kinds;
        int people;
        int things;
        // Three bits a half: who holds it.
        long held;
        // Sixteen bits a person: its coin, of persons 0 to 3, and of 4 to 7.
        long lowCoin;
        long highCoin;
        // Eight bits a person: with whom.
        long friends;
        long foes;
        int took;
        int today;
        int luck = 1;

        Market(int[] values, int[] kinds) {
            this.values = values;
            this.kinds = kinds;
        }

        void copy(Market from) {
            people = from.people;
            things = from.things;
            held = from.held;
            lowCoin = from.lowCoin;
            highCoin = from.highCoin;
            friends = from.friends;
            foes = from.foes;
            took = from.took;
            today = from.today;
            luck = from.luck;
        }

        boolean hasPerson(int person) {
            return person >= 0 && person < people;
        }

        boolean hasThing(int thing) {
            return thing >= 0 && thing < things;
        }

        boolean hasHalf(int half) {
            return half >= 0 && half < halves();
        }

        boolean hasThings(int bits) {
            return (bits & ~allThings()) == 0;
        }

        int allThings() {
            return (1 << things) - 1;
        }

        int halves() {
            return 2 * things;
        }

        void addPerson(int coin) {
            if (people < MOST_PEOPLE) {
                setCoin(people, coin);
                people++;
            }
        }

        void addThing(int one, int other, int value, int kind) {
            if (things < MOST_THINGS && things >= 0 && things < kinds.length) {
                give(2 * things, one);
                give(2 * things + 1, other);
                kinds[things] = kind;
                setValue(things, value);
                things++;
            }
        }

        int value(int thing) {
            return thing >= 0 && thing < values.length ? values[thing] : 0;
        }

        void setValue(int thing, int value) {
            if (thing >= 0 && thing < values.length) {
                values[thing] = Math.max(1, Math.min(MOST_VALUE, value));
            }
        }

        void setAllValues(int value) {
            for (int thing = 0; thing < things; thing++) {
                setValue(thing, value);
            }
        }

        int kind(int thing) {
            return thing >= 0 && thing < kinds.length ? kinds[thing] : 0;
        }

        int holder(int half) {
            return (int) (held >>> 3 * half) & 7;
        }

        void give(int half, int person) {
            held = held & ~(7L << 3 * half) | (long) person << 3 * half;
        }

        void exchange(int one, int other) {
            long differ = holder(one) ^ holder(other);
            held ^= differ << 3 * one ^ differ << 3 * other;
        }

        boolean holdsNeither(int half, int person) {
            return holder(half) != person && holder(half ^ 1) != person;
        }

        int holders(int thing) {
            return 1 << holder(2 * thing) | 1 << holder(2 * thing + 1);
        }

        int halvesOf(int person) {
            int bits = 0;
            for (int half = 0; half < halves(); half++) {
                if (holder(half) == person) {
                    bits |= 1 << half;
                }
            }
            return bits;
        }

        int sharedBy(int one, int other) {
            int both = 1 << one | 1 << other;
            int bits = 0;
            for (int thing = 0; thing < things; thing++) {
                if (holders(thing) == both) {
                    bits |= 1 << thing;
                }
            }
            return bits;
        }

        /** How many halves one holds of other things, or of other things of the same kind. */
        int countBeside(int thing, int person, boolean isAlike) {
            if (thing < 0 || thing >= kinds.length) {
                return 0;
            }
            int count = 0;
            for (int i = 0; i < things && i < kinds.length; i++) {
                int two = (int) (held >>> 6 * i);
                boolean holds = (two & 7) == person || (two >>> 3 & 7) == person;
                if (holds && i != thing && (!isAlike || kinds[i] == kinds[thing])) {
                    count++;
                }
            }
            return count;
        }

        int coin(int person) {
            return (int) ((person < 4 ? lowCoin : highCoin) >>> 16 * (person & 3)) & 0xffff;
        }

        void setCoin(int person, int coin) {
            int shift = 16 * (person & 3);
            long others = ~(0xffffL << shift);
            long put = (long) Math.max(0, Math.min(MOST_COIN, coin)) << shift;
            if (person < 4) {
                lowCoin = lowCoin & others | put;
            } else {
                highCoin = highCoin & others | put;
            }
        }

        int coinOfAll() {
            int sum = 0;
            for (int person = 0; person < people; person++) {
                sum += coin(person);
            }
            return sum;
        }

        void share(int thing) {
            int one = holder(2 * thing);
            int other = holder(2 * thing + 1);
            int half = value(thing) / 2;
            setCoin(one, coin(one) + value(thing) - half);
            setCoin(other, coin(other) + half);
        }

        int friendsOf(int person) {
            return (int) (friends >>> 8 * person) & 255;
        }

        int foesOf(int person) {
            return (int) (foes >>> 8 * person) & 255;
        }

        int bond(int one, int other) {
            if ((friends >>> 8 * one + other & 1) == 1) {
                return FRIENDS;
            }
            return (foes >>> 8 * one + other & 1) == 1 ? QUARREL : 0;
        }

        void bind(int one, int other, int is) {
            long both = 1L << 8 * one + other | 1L << 8 * other + one;
            friends &= ~both;
            foes &= ~both;
            if (is == FRIENDS) {
                friends |= both;
            } else if (is == QUARREL) {
                foes |= both;
            }
        }

        boolean isTogether(int thing) {
            return bond(holder(2 * thing), holder(2 * thing + 1)) == FRIENDS;
        }

        boolean isBarred(int thing) {
            return bond(holder(2 * thing), holder(2 * thing + 1)) == QUARREL;
        }

        int togetherBits() {
            int bits = 0;
            for (int thing = 0; thing < things; thing++) {
                if (isTogether(thing)) {
                    bits |= 1 << thing;
                }
            }
            return bits;
        }

        int countTogether() {
            return Integer.bitCount(togetherBits());
        }

        int barredBits() {
            int bits = 0;
            for (int thing = 0; thing < things; thing++) {
                if (isBarred(thing)) {
                    bits |= 1 << thing;
                }
            }
            return bits;
        }

        int firstBarred(int bits) {
            for (int thing = 0; thing < things; thing++) {
                if ((bits >>> thing & 1) == 1 && isBarred(thing)) {
                    return thing;
                }
            }
            return NONE;
        }

        /** The first pair that somebody holds halves of both of, as 10 times the lesser and the other. */
        int firstClash(int bits) {
            for (int one = 0; one < things; one++) {
                for (int other = one + 1; other < things; other++) {
                    boolean areAsked = (bits >>> one & bits >>> other & 1) == 1;
                    if (areAsked && (holders(one) & holders(other)) != 0) {
                        return MOST_THINGS * one + other;
                    }
                }
            }
            return NONE;
        }

        int draw(int n) {
            luck = luck * 1103515245 + 12345;
            return n > 0 ? (luck >>> 16) % n : 0;
        }
    }

    /** Reads the lines of a market: once to see that all can stand, once more to bring them. */
    private static final class MarketReader {
        private static final int MOST_MARKET_SIGNS = 76;

        private int people;
        private int things;
        private int lines;

        int read(Text text, Market market) {
            if (text.length() == 0) {
                return 0;
            }
            if (!readAll(text, market, false) || text.hasMore()) {
                return -1 - text.at();
            }
            readAll(text, market, true);
            return lines;
        }

        private boolean readAll(Text text, Market market, boolean brings) {
            people = market.people;
            things = market.things;
            text.startReading(MOST_MARKET_SIGNS);
            for (lines = 1; lines <= MOST_MARKET_SIGNS; lines++) {
                if (!readLine(text, market, brings)) {
                    return false;
                }
                if (!text.takes(';')) {
                    return text.isAtEnd();
                }
            }
            return false;
        }

        private boolean readLine(Text text, Market market, boolean brings) {
            int sign = text.peek();
            if (sign >= '0' && sign <= '9') {
                return readPerson(text, market, brings);
            }
            switch (sign) {
                case 't':
                    return readThing(text, market, brings);
                case 'f':
                    return readBond(text, market, brings ? FRIENDS : NONE);
                case 'q':
                    return readBond(text, market, brings ? QUARREL : NONE);
                default:
                    return false;
            }
        }

        private boolean readPerson(Text text, Market market, boolean brings) {
            if (people >= MOST_PEOPLE) {
                return false;
            }
            int coin = text.number(3);
            people++;
            if (brings) {
                market.addPerson(coin);
            }
            return true;
        }

        private boolean readThing(Text text, Market market, boolean brings) {
            if (things >= MOST_THINGS) {
                return false;
            }
            text.step();
            int one = readSomeone(text, NONE);
            if (one == NONE || !text.takes('-')) {
                return false;
            }
            int other = readSomeone(text, one);
            if (other == NONE || !text.takes('*')) {
                return false;
            }
            int value = text.number(2);
            if (value == 0) {
                text.stepBack();
            }
            if (value <= 0 || !text.takes(',')) {
                return false;
            }
            int kind = text.number(1);
            if (kind == NONE) {
                return false;
            }
            things++;
            if (brings) {
                market.addThing(one, other, value, kind);
            }
            return true;
        }

        private boolean readBond(Text text, Market market, int is) {
            text.step();
            int one = readSomeone(text, NONE);
            if (one == NONE || !text.takes('-')) {
                return false;
            }
            int other = readSomeone(text, one);
            if (other == NONE) {
                return false;
            }
            if (is != NONE) {
                market.bind(one, other, is);
            }
            return true;
        }

        private int readSomeone(Text text, int but) {
            int person = text.peek() - '0';
            if (person < 0 || person >= people || person == but) {
                return NONE;
            }
            text.step();
            return person;
        }
    }

    /** What a half is worth to one: numbers and signs, each sign behind what it works on. */
    private static final class Rule {
        static final int MOST_RULE_SIGNS = 40;
        // Above all numbers that a rule can tell; a sign stands as this and its number.
        static final int SIGN = 1000;
        static final int NEGATION = '~';

        private final int[] code = new int[MOST_RULE_SIGNS];
        private final int[] stack = new int[MOST_RULE_SIGNS];
        private int size;
        private int top;
        private Market market;
        private int half;
        private int person;
        private int other;

        void take(int[] from, int n) {
            size = 0;
            for (int i = 0; i < n && i < from.length && i < code.length; i++) {
                code[i] = from[i];
                size++;
            }
        }

        /** Worth of a half to one, as if the other half were held by that other one. */
        int worthTo(Market market, int half, int person, int other) {
            if (size == 0) {
                return market.value(half >> 1);
            }
            this.market = market;
            this.half = half;
            this.person = person;
            this.other = other;
            top = 0;
            for (int i = 0; i < size && i < code.length; i++) {
                int sign = code[i] - SIGN;
                if (sign < 0) {
                    push(code[i]);
                } else if (sign >= 'a' && sign <= 'z') {
                    push(letter(sign));
                } else if (sign == NEGATION) {
                    push(-pop());
                } else {
                    int right = pop();
                    push(joined(sign, pop(), right));
                }
            }
            return Math.max(0, Math.min(MOST_COIN, pop()));
        }

        private int letter(int sign) {
            if (market == null) {
                return 0;
            }
            switch (sign) {
                case 'i':
                    return person;
                case 'o':
                    return other;
                case 'c':
                    return market.coin(person);
                case 'v':
                    return market.value(half >> 1);
                case 'k':
                    return market.kind(half >> 1);
                case 'h':
                    return market.countBeside(half >> 1, person, false);
                case 'f':
                    return market.bond(person, other) == FRIENDS ? 1 : 0;
                case 'q':
                    return market.bond(person, other) == QUARREL ? 1 : 0;
                case 's':
                    return market.countBeside(half >> 1, person, true);
                default:
                    return 0;
            }
        }

        private static int joined(int sign, int left, int right) {
            switch (sign) {
                case '<':
                    return left < right ? 1 : 0;
                case '>':
                    return left > right ? 1 : 0;
                case '=':
                    return left == right ? 1 : 0;
                case '+':
                    return left + right;
                case '-':
                    return left - right;
                case '*':
                    return left * right;
                case '/':
                    return right == 0 ? 0 : left / right;
                default:
                    return 0;
            }
        }

        private void push(int number) {
            if (top >= 0 && top < stack.length) {
                stack[top] = number;
                top++;
            }
        }

        private int pop() {
            if (top <= 0 || top > stack.length) {
                return 0;
            }
            top--;
            return stack[top];
        }
    }

    /** Reads the text of a rule; the rule stays as it is, if the text can't stand. */
    private static final class RuleReader {
        private static final int MOST_DEEP = 4;

        private final int[] code = new int[Rule.MOST_RULE_SIGNS];
        private int size;

        int read(Text text, Rule rule) {
            size = 0;
            text.startReading(Rule.MOST_RULE_SIGNS);
            if (text.length() > 0) {
                boolean fits = readExpression(text, 0) && text.isAtEnd();
                if (!fits || text.hasMore()) {
                    return -1 - text.at();
                }
            }
            rule.take(code, size);
            return 0;
        }

        private boolean readExpression(Text text, int depth) {
            if (!readSum(text, depth)) {
                return false;
            }
            int sign = text.peek();
            if (sign != '<' && sign != '>' && sign != '=') {
                return true;
            }
            text.step();
            if (!readSum(text, depth)) {
                return false;
            }
            write(Rule.SIGN + sign);
            return true;
        }

        private boolean readSum(Text text, int depth) {
            if (!readProduct(text, depth)) {
                return false;
            }
            for (int i = 0; i < Rule.MOST_RULE_SIGNS; i++) {
                int sign = text.peek();
                if (sign != '+' && sign != '-') {
                    return true;
                }
                text.step();
                if (!readProduct(text, depth)) {
                    return false;
                }
                write(Rule.SIGN + sign);
            }
            return true;
        }

        private boolean readProduct(Text text, int depth) {
            if (!readSigned(text, depth)) {
                return false;
            }
            for (int i = 0; i < Rule.MOST_RULE_SIGNS; i++) {
                int sign = text.peek();
                if (sign != '*' && sign != '/') {
                    return true;
                }
                text.step();
                if (!readSigned(text, depth)) {
                    return false;
                }
                write(Rule.SIGN + sign);
            }
            return true;
        }

        private boolean readSigned(Text text, int depth) {
            boolean isNegative = false;
            for (int i = 0; i < Rule.MOST_RULE_SIGNS && text.takes('-'); i++) {
                isNegative = !isNegative;
            }
            if (!readThing(text, depth)) {
                return false;
            }
            if (isNegative) {
                write(Rule.SIGN + Rule.NEGATION);
            }
            return true;
        }

        private boolean readThing(Text text, int depth) {
            int number = text.number(3);
            if (number != NONE) {
                write(number);
                return true;
            }
            int sign = text.peek();
            if (sign == '(') {
                return readBracket(text, depth + 1);
            }
            if (!isLetter(sign)) {
                return false;
            }
            text.step();
            write(Rule.SIGN + sign);
            return true;
        }

        private boolean readBracket(Text text, int depth) {
            if (depth > MOST_DEEP) {
                return false;
            }
            text.step();
            return readExpression(text, depth) && text.takes(')');
        }

        private static boolean isLetter(int sign) {
            switch (sign) {
                case 'i':
                case 'o':
                case 'c':
                case 'v':
                case 'k':
                case 'h':
                case 'f':
                case 'q':
                case 's':
                    return true;
                default:
                    return false;
            }
        }

        private void write(int step) {
            if (size >= 0 && size < code.length) {
                code[size] = step;
                size++;
            }
        }
    }

    /** Sales by the law, and swaps. */
    private static final class Trade {
        static final int BY_HALF = 1;
        static final int BY_BID = 2;

        private final Rule rule;
        int sort;
        int fee;
        int asked;
        int bid;
        int price;
        int found;
        int best;
        int bestBy;

        Trade(Rule rule) {
            this.rule = rule;
        }

        /** Whether a sale to one who holds neither half can be; what is asked, bid and paid. */
        boolean look(Market market, int half, int buyer) {
            int other = market.holder(half ^ 1);
            asked = rule.worthTo(market, half, market.holder(half), other);
            bid = rule.worthTo(market, half, buyer, other);
            if (sort == BY_HALF) {
                price = (asked + bid) / 2;
            } else {
                price = sort == BY_BID ? bid : asked;
            }
            return bid > asked && market.coin(buyer) >= price + fee;
        }

        /** Makes the sale that was looked at last. */
        void make(Market market, int half, int buyer) {
            int seller = market.holder(half);
            market.setCoin(seller, market.coin(seller) + price);
            market.setCoin(buyer, market.coin(buyer) - price - fee);
            market.give(half, buyer);
        }

        boolean makeTold(Market market, int told) {
            int half = told / 10;
            int buyer = told % 10;
            if (!market.hasHalf(half) || !market.hasPerson(buyer)) {
                return false;
            }
            if (!market.holdsNeither(half, buyer) || !look(market, half, buyer)) {
                return false;
            }
            make(market, half, buyer);
            return true;
        }

        /** Counts the sales that can be, and finds the one that its sides differ most about. */
        void survey(Market market) {
            found = 0;
            best = NONE;
            bestBy = 0;
            for (int half = 0; half < market.halves(); half++) {
                for (int buyer = 0; buyer < market.people; buyer++) {
                    if (!market.holdsNeither(half, buyer) || !look(market, half, buyer)) {
                        continue;
                    }
                    found++;
                    if (bid - asked > bestBy) {
                        best = 10 * half + buyer;
                        bestBy = bid - asked;
                    }
                }
            }
        }

        /** The sale that so many lesser ones can be ahead of. */
        int numberOf(Market market, int ahead) {
            int passed = 0;
            for (int half = 0; half < market.halves(); half++) {
                for (int buyer = 0; buyer < market.people; buyer++) {
                    if (!market.holdsNeither(half, buyer) || !look(market, half, buyer)) {
                        continue;
                    }
                    if (passed == ahead) {
                        return 10 * half + buyer;
                    }
                    passed++;
                }
            }
            return NONE;
        }

        int dearest(Market market, int seller) {
            int sale = NONE;
            int most = NONE;
            for (int half = 0; half < market.halves(); half++) {
                if (market.holder(half) != seller) {
                    continue;
                }
                for (int buyer = 0; buyer < market.people; buyer++) {
                    if (!market.holdsNeither(half, buyer) || !look(market, half, buyer)) {
                        continue;
                    }
                    if (price > most) {
                        sale = 10 * half + buyer;
                        most = price;
                    }
                }
            }
            return sale;
        }

        boolean allows(Market market, int one, int other) {
            int oneHolder = market.holder(one);
            int otherHolder = market.holder(other);
            return one >> 1 != other >> 1 && oneHolder != otherHolder
                    && market.holder(one ^ 1) != otherHolder
                    && market.holder(other ^ 1) != oneHolder;
        }

        /** By how much more worth who holds the first half has by a swap that may be. */
        int gain(Market market, int one, int other) {
            int holder = market.holder(one);
            int gives = rule.worthTo(market, one, holder, market.holder(one ^ 1));
            market.exchange(one, other);
            int gets = rule.worthTo(market, other, holder, market.holder(other ^ 1));
            market.exchange(one, other);
            return gets - gives;
        }

        boolean isGood(Market market, int one, int other) {
            return allows(market, one, other)
                    && gain(market, one, other) > 0 && gain(market, other, one) > 0;
        }

        int countGood(Market market) {
            int count = 0;
            for (int one = 0; one < market.halves(); one++) {
                for (int other = one + 1; other < market.halves(); other++) {
                    if (isGood(market, one, other)) {
                        count++;
                    }
                }
            }
            return count;
        }

        int firstGood(Market market) {
            for (int one = 0; one < market.halves(); one++) {
                for (int other = one + 1; other < market.halves(); other++) {
                    if (isGood(market, one, other)) {
                        return 100 * one + other;
                    }
                }
            }
            return NONE;
        }
    }

    /** How the market was ahead of each of the latest sales and swaps, in a ring. */
    private static final class Past {
        private static final int MOST_PAST = 30;

        private final long[] held = new long[MOST_PAST];
        private final long[] lowCoin = new long[MOST_PAST];
        private final long[] highCoin = new long[MOST_PAST];
        private int size;
        private int next;

        int size() {
            return size;
        }

        void forget() {
            size = 0;
        }

        void note(Market market) {
            if (next < 0 || next >= MOST_PAST) {
                return;
            }
            held[next] = market.held;
            lowCoin[next] = market.lowCoin;
            highCoin[next] = market.highCoin;
            next = (next + 1) % MOST_PAST;
            size = Math.min(size + 1, MOST_PAST);
        }

        boolean takeBack(Market market) {
            int latest = (next + MOST_PAST - 1) % MOST_PAST;
            if (size <= 0 || latest < 0) {
                return false;
            }
            market.held = held[latest];
            market.lowCoin = lowCoin[latest];
            market.highCoin = highCoin[latest];
            next = latest;
            size--;
            return true;
        }
    }

    /** The best uses of one day. */
    private static final class Day {
        private Market market;
        private int open;
        private int most;
        int used;

        /** The most that uses of things that are not shut bring, by people who are not at rest. */
        int mostOf(Market market, int shut, int atRest, int least) {
            this.market = market;
            open = market.allThings() & ~market.barredBits() & ~shut;
            // A sum that is no more than the least is not looked for.
            most = least;
            used = 0;
            int rest = 0;
            for (int thing = 0; thing < market.things; thing++) {
                rest += valueOf(thing);
            }
            choose(market.things - 1, atRest, 0, 0, rest);
            return most;
        }

        private int valueOf(int thing) {
            return market != null && (open >>> thing & 1) == 1 ? market.value(thing) : 0;
        }

        // From the last thing down, unused first, the choices come in the order of their numbers.
        private void choose(int thing, int busy, int sum, int bits, int rest) {
            if (sum + rest <= most || market == null) {
                return;
            }
            if (thing < 0) {
                most = sum;
                used = bits;
                return;
            }
            int value = valueOf(thing);
            int both = market.holders(thing);
            choose(thing - 1, busy, sum, bits, rest - value);
            if (value > 0 && (busy & both) == 0) {
                choose(thing - 1, busy | both, sum + value, bits | 1 << thing, rest - value);
            }
        }
    }

    /** States of the market, each once, in the order in which they were found. */
    private static final class States {
        private static final int SLOTS = 8192;

        private final long[] held = new long[MOST_STATES];
        private final long[] lowCoin = new long[MOST_STATES];
        private final long[] highCoin = new long[MOST_STATES];
        private final int[] from = new int[MOST_STATES];
        private final int[] step = new int[MOST_STATES];
        // The number of a state and one more; 0 where there is none.
        private final int[] slots = new int[SLOTS];
        private int size;
        private boolean isOver;

        int size() {
            return size;
        }

        boolean isOver() {
            return isOver;
        }

        void clear() {
            Arrays.fill(slots, 0);
            size = 0;
            isOver = false;
        }

        void load(int state, Market market) {
            if (state >= 0 && state < size && state < MOST_STATES) {
                market.held = held[state];
                market.lowCoin = lowCoin[state];
                market.highCoin = highCoin[state];
            }
        }

        void add(Market market, int before, int by) {
            int slot = slotOf(market);
            if (slot < 0 || slot >= SLOTS || slots[slot] != 0) {
                return;
            }
            if (size < 0 || size >= MOST_STATES) {
                isOver = true;
                return;
            }
            held[size] = market.held;
            lowCoin[size] = market.lowCoin;
            highCoin[size] = market.highCoin;
            from[size] = before;
            step[size] = by;
            size++;
            slots[slot] = size;
        }

        int find(Market market) {
            int slot = slotOf(market);
            return slot < 0 || slot >= SLOTS ? NONE : slots[slot] - 1;
        }

        int from(int state) {
            return state >= 0 && state < MOST_STATES ? from[state] : NONE;
        }

        int step(int state) {
            return state >= 0 && state < MOST_STATES ? step[state] : NONE;
        }

        /** Where a state stands, or the free slot where it would. */
        private int slotOf(Market market) {
            long mixed = market.held * 0x9e3779b97f4a7c15L + market.lowCoin;
            mixed = mixed * 0x9e3779b97f4a7c15L + market.highCoin;
            mixed = mixed * 0x9e3779b97f4a7c15L;
            int slot = (int) (mixed >>> 51);
            for (int i = 0; i < SLOTS; i++) {
                slot = slot & SLOTS - 1;
                if (slots[slot] == 0 || isAt(slots[slot] - 1, market)) {
                    return slot;
                }
                slot++;
            }
            return NONE;
        }

        private boolean isAt(int state, Market market) {
            return state >= 0 && state < MOST_STATES && held[state] == market.held
                    && lowCoin[state] == market.lowCoin && highCoin[state] == market.highCoin;
        }
    }

    /**
     * Finds all states that can come. They are found in the order of how many steps lead to them,
     * then of the least row of such steps, as the steps from each are taken from the least on.
     */
    private static final class Search {
        private final Trade trade;
        private final Market then;
        private final States states = new States();
        private final int[] path = new int[MOST_STEPS];
        // Of an estate's states: what it can get yet, by how few sales, the first one, what comes of it.
        private final int[] gets = new int[MOST_STATES];
        private final int[] sales = new int[MOST_STATES];
        private final int[] firstSale = new int[MOST_STATES];
        private final int[] after = new int[MOST_STATES];
        int together;

        Search(Trade trade, Market then) {
            this.trade = trade;
            this.then = then;
        }

        int size() {
            return states.size();
        }

        int pathAt(int i) {
            return i >= 0 && i < path.length ? path[i] : NONE;
        }

        private void begin(Market market) {
            then.copy(market);
            states.clear();
            states.add(then, NONE, NONE);
        }

        boolean spreadSwaps(Market market) {
            begin(market);
            for (int i = 0; i < MOST_STATES && i < states.size() && !states.isOver(); i++) {
                states.load(i, then);
                addSwaps(i);
            }
            return !states.isOver();
        }

        private void addSwaps(int from) {
            for (int one = 0; one < then.halves(); one++) {
                for (int other = one + 1; other < then.halves(); other++) {
                    if (trade.allows(then, one, other)) {
                        then.exchange(one, other);
                        states.add(then, from, 100 * one + other);
                        then.exchange(one, other);
                    }
                }
            }
        }

        boolean spreadGifts(Market market, int things) {
            begin(market);
            for (int i = 0; i < MOST_STATES && i < states.size() && !states.isOver(); i++) {
                states.load(i, then);
                addGifts(i, things);
            }
            return !states.isOver();
        }

        private void addGifts(int from, int things) {
            for (int half = 0; half < then.halves(); half++) {
                if ((things >>> (half >> 1) & 1) == 0) {
                    continue;
                }
                int holder = then.holder(half);
                for (int buyer = 0; buyer < then.people; buyer++) {
                    if (then.holdsNeither(half, buyer)) {
                        then.give(half, buyer);
                        states.add(then, from, 10 * half + buyer);
                        then.give(half, holder);
                    }
                }
            }
        }

        int firstFeast(int things) {
            for (int i = 0; i < states.size(); i++) {
                states.load(i, then);
                if (then.firstBarred(things) == NONE && then.firstClash(things) == NONE) {
                    return i;
                }
            }
            return NONE;
        }

        int firstFriendliest() {
            int state = NONE;
            together = NONE;
            for (int i = 0; i < states.size(); i++) {
                states.load(i, then);
                if (then.countTogether() > together) {
                    together = then.countTogether();
                    state = i;
                }
            }
            return state;
        }

        int countResting() {
            int count = 0;
            for (int i = 0; i < states.size(); i++) {
                states.load(i, then);
                if (trade.firstGood(then) == NONE) {
                    count++;
                }
            }
            return count;
        }

        int mostOfAny(Day plan) {
            int most = NONE;
            for (int i = 0; i < states.size(); i++) {
                states.load(i, then);
                most = plan.mostOf(then, 0, 0, most);
            }
            return most;
        }

        /** How many steps lead to a state; the first ones of them are the path then. */
        int tracePath(int state) {
            int steps = 0;
            int at = state;
            for (int i = 0; i < MOST_STATES && at > 0; i++) {
                steps++;
                at = states.from(at);
            }
            at = state;
            for (int i = steps - 1; i >= 0; i--) {
                if (i < path.length) {
                    path[i] = states.step(at);
                }
                at = states.from(at);
            }
            return steps;
        }

        boolean spreadEstate(Market market, int seller) {
            begin(market);
            for (int i = 0; i < MOST_STATES && i < states.size() && !states.isOver(); i++) {
                sellFrom(i, seller, true);
            }
            return !states.isOver();
        }

        // Each sale leads to a state found later, as the seller holds fewer halves then.
        int weighEstate(int seller) {
            for (int i = states.size() - 1; i >= 0; i--) {
                endAt(i);
                sellFrom(i, seller, false);
            }
            return gets[0];
        }

        /** Takes each sale from a state: finds what comes of it, or weighs it. */
        private void sellFrom(int state, int seller, boolean finds) {
            states.load(state, then);
            for (int half = 0; half < then.halves(); half++) {
                if (then.holder(half) != seller) {
                    continue;
                }
                for (int buyer = 0; buyer < then.people; buyer++) {
                    if (!then.holdsNeither(half, buyer) || !trade.look(then, half, buyer)) {
                        continue;
                    }
                    trade.make(then, half, buyer);
                    if (finds) {
                        states.add(then, state, 10 * half + buyer);
                    } else {
                        weigh(state, 10 * half + buyer, states.find(then));
                    }
                    states.load(state, then);
                }
            }
        }

        private void endAt(int state) {
            if (state >= 0 && state < MOST_STATES) {
                gets[state] = 0;
                sales[state] = 0;
                after[state] = NONE;
            }
        }

        // All that can be is sold: a state is an end only if no sale can be.
        private void weigh(int state, int sale, int next) {
            if (state < 0 || state >= MOST_STATES || next < 0 || next >= MOST_STATES) {
                return;
            }
            int sum = trade.price + gets[next];
            int count = 1 + sales[next];
            boolean isMore = sum > gets[state] || sum == gets[state] && count < sales[state];
            if (after[state] == NONE || isMore) {
                gets[state] = sum;
                sales[state] = count;
                firstSale[state] = sale;
                after[state] = next;
            }
        }

        /** How many sales the best order has; they are the path then. */
        int traceEstate() {
            int state = 0;
            int steps = 0;
            for (int i = 0; i < path.length; i++) {
                if (state < 0 || state >= MOST_STATES || after[state] == NONE) {
                    break;
                }
                path[i] = firstSale[state];
                steps++;
                state = after[state];
            }
            return steps;
        }
    }

    /** The uses that were told. */
    private static final class Book {
        private final int[] things = new int[MOST_TOLD];
        private final int[] pairs = new int[MOST_TOLD];
        private int size;
        int uses;
        int everHeld;

        int size() {
            return size;
        }

        boolean add(int thing, int pair) {
            if (size < 0 || size >= MOST_TOLD) {
                return false;
            }
            things[size] = thing;
            pairs[size] = pair;
            size++;
            return true;
        }

        /**
         * The fewest sales behind what was told. Which half was whose is not told: one that stays
         * keeps its half, so each sale brings one who was not there.
         */
        int readSales(int thing, int now) {
            int sales = 0;
            int last = 0;
            uses = 0;
            everHeld = now;
            for (int i = 0; i < size && i < MOST_TOLD; i++) {
                if (things[i] != thing) {
                    continue;
                }
                sales += Integer.bitCount(last & ~pairs[i]);
                last = pairs[i];
                everHeld |= last;
                uses++;
            }
            return sales + Integer.bitCount(last & ~now);
        }

        int steadyOf(int thing, int now) {
            int stayed = now;
            for (int i = 0; i < size && i < MOST_TOLD; i++) {
                if (things[i] == thing) {
                    stayed &= pairs[i];
                }
            }
            return stayed;
        }
    }
}
