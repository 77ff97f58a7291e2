import java.util.Arrays;
import java.util.NoSuchElementException;

/**
 * A town in snow: whoever's snow slides onto another one's path owes that house days of work in June.
 * The document ../shared/DOC.md says what each call answers.
 */
public final class SnowForSummer {
    public static final int NONE = -1;

    /** The answer of a call that is allowed, but finds nothing to tell or to do. */
    private static final int NOT_SO = -2;
    private static final int HOUSES = 7;
    private static final int SIDES = 14;
    private static final int DEBTS = 49;
    private static final int MOST_INCHES = 999;
    private static final int MOST_HOLD = 99;
    private static final int MOST_HAY = 30;
    private static final int MOST_DEBT = 9999;
    /** Inches, or days of work, that one call may move. */
    private static final int MOST_AT_ONCE = 99;
    private static final int MOST_AHEAD = 60;
    private static final int MOST_NIGHTS = 3;
    private static final int MOST_ROUNDS = 20;
    private static final int MOST_REST = 30;
    /** More than all days that any run of days can come to owe. */
    private static final int ENDLESS = 1000000;
    private static final int MOST_DAY = 9999;
    private static final int NO_SUCH_DAY = -10;
    private static final int MISSING_SHEET = -3;
    private static final int KEPT = 2;
    private static final int ROW = 8;

    private final Text text = new Text();
    private final Town town = new Town();
    private final Weather weather = new Weather();
    private final Rule rule = new Rule();
    private final Acts acts = new Acts();
    private final Walk real = new Walk(town, weather, rule);
    private final Walk trial = new Walk(town, weather, rule);
    private final Walk round = new Walk(town, weather, rule);
    private final Hands nights = new Hands(town, weather, rule);
    private final State before = new State();
    private final History history = new History();
    private final State[] kept = new State[KEPT];
    private final int[] keptHouses = new int[KEPT];
    private final Ring shortest = new Ring();
    private final Tracks tracks = new Tracks();
    private final int[] tally = new int[HOUSES];
    private final int[] told = new int[ROW];
    private int toldCount;

    public SnowForSummer() {
        for (int i = 0; i < KEPT; i++) {
            kept[i] = new State();
            keptHouses[i] = NONE;
        }
    }

    // ---- the town

    public int sign(int v) {
        return text.append(v);
    }

    public boolean end(int n) {
        return text.cut(n);
    }

    public int town() {
        int answer = town.read(text);
        text.empty();
        if (answer > 0) {
            history.forget();
        }
        return answer;
    }

    public int weather() {
        int answer = weather.read(text);
        text.empty();
        return answer;
    }

    public int rule() {
        int answer = rule.read(text);
        text.empty();
        return answer;
    }

    public int winter(int seed, int n) {
        return isWithin(n, 1, Weather.MOST) ? weather.draw(seed, n) : NONE;
    }

    public int falls(int day) {
        return isWithin(day, 0, MOST_DAY) ? weather.inchesIn(day) : NO_SUCH_DAY;
    }

    public int of(int house, int what) throws NoSuchElementException {
        if (!town.has(house)) {
            throw new NoSuchElementException();
        }
        switch (what) {
            case 0:
                return town.hold[house];
            case 1:
                return real.state.snow[2 * house];
            case 2:
                return real.state.snow[2 * house + 1];
            case 3:
                return real.state.path[house];
            case 4:
                return town.below[2 * house];
            case 5:
                return town.below[2 * house + 1];
            case 6:
                return town.hay[house];
            case 7:
                return real.state.owedBy(house);
            case 8:
                return real.state.owedTo(house);
            default:
                throw new NoSuchElementException();
        }
    }

    public int set(int house, int what, int v) {
        if (!town.has(house)) {
            return NONE;
        }
        switch (what) {
            case 0:
                return exchange(town.hold, house, v, 1, MOST_HOLD);
            case 1:
                return exchange(real.state.snow, 2 * house, v, 0, MOST_INCHES);
            case 2:
                return exchange(real.state.snow, 2 * house + 1, v, 0, MOST_INCHES);
            case 3:
                return exchange(real.state.path, house, v, 0, MOST_INCHES);
            case 4:
                return exchange(town.below, 2 * house, v, 0, HOUSES - 1);
            case 5:
                return exchange(town.below, 2 * house + 1, v, 0, HOUSES - 1);
            case 6:
                return exchange(town.hay, house, v, 0, MOST_HAY);
            default:
                return NONE;
        }
    }

    private static int exchange(int[] cells, int i, int v, int least, int most) {
        if (i < 0 || i >= cells.length || !isWithin(v, least, most)) {
            return NONE;
        }
        int old = cells[i];
        cells[i] = v;
        return old;
    }

    public int sheet(int kind, int n, int f, int step) {
        if (!isWithin(kind, 0, 3) || n > SIDES) {
            return NONE;
        }
        if (kind == 3) {
            Arrays.fill(real.state.snow, 0);
            return MISSING_SHEET;
        }
        if (n < 0) {
            return NOT_SO;
        }
        int sum = 0;
        for (int side = 0; side < 2 * town.houses; side++) {
            int inches = side < n ? entryOf(kind, f + side * step) : 0;
            real.state.snow[side] = Math.max(0, Math.min(MOST_INCHES, inches));
            sum += real.state.snow[side];
        }
        return sum;
    }

    private static int entryOf(int kind, int v) {
        if (kind == 0) {
            return (byte) v;
        }
        return kind == 1 ? (short) v : v;
    }

    public int above(int house) {
        if (!town.has(house)) {
            return NONE;
        }
        int bits = 0;
        int inches = 0;
        int deepestSide = NONE;
        int most = 0;
        for (int side = 0; side < 2 * town.houses; side++) {
            if (town.below[side] == house && side / 2 != house) {
                int lies = real.state.snow[side];
                bits |= 1 << side;
                inches += lies;
                if (lies > most) {
                    most = lies;
                    deepestSide = side;
                }
            }
        }
        tell(inches, deepestSide);
        return bits;
    }

    public int debt(int from, int to) {
        return town.hasTwo(from, to) ? real.state.debt[from * HOUSES + to] : NONE;
    }

    // ---- days and hands

    public int day() {
        return goOn(1);
    }

    public int days(int n) {
        return isWithin(n, 0, MOST_AHEAD) ? goOn(n) : NONE;
    }

    private int goOn(int n) {
        startCall();
        real.goDays(n);
        tell(real.owed, real.state.onPaths());
        if (n > 0) {
            history.push(before);
        }
        return real.slides;
    }

    public int sweep(int side, int n) {
        startCall();
        return remembered(sweepNow(side, n));
    }

    public int clear(int house, int n) {
        startCall();
        return remembered(clearNow(house, n));
    }

    public int wind(int from, int n) {
        if (!isWithin(from, 0, 1) || !isWithin(n, 1, MOST_AT_ONCE)) {
            return NONE;
        }
        startCall();
        int went = 0;
        for (int house = 0; house < town.houses; house++) {
            went += real.state.shift(2 * house + from, n);
        }
        return remembered(went);
    }

    public int loose(int by, int side) {
        startCall();
        int inches = looseNow(by, side);
        if (inches >= 0) {
            tell(real.owed);
        }
        return remembered(inches);
    }

    public int work(int from, int to, int n) {
        if (!town.hasTwo(from, to) || !isWithin(n, 1, MOST_AT_ONCE)) {
            return NONE;
        }
        int owed = real.state.debt[from * HOUSES + to];
        if (owed < n) {
            return NOT_SO;
        }
        startCall();
        real.state.debt[from * HOUSES + to] = owed - n;
        return remembered(owed - n);
    }

    public int night() {
        boolean good = acts.read(text);
        int fault = text.fault();
        text.empty();
        if (!good) {
            return fault;
        }
        startCall();
        int done = 0;
        while (done < acts.size && doAct(done) >= 0) {
            done++;
        }
        tell(done < acts.size ? 1 : 0, real.owed);
        if (done > 0) {
            history.push(before);
        }
        return done;
    }

    private int doAct(int i) {
        if (i < 0 || i >= Acts.MOST) {
            return NONE;
        }
        switch (acts.kind[i]) {
            case 's':
                return sweepNow(acts.first[i], acts.second[i]);
            case 'c':
                return clearNow(acts.first[i], acts.second[i]);
            case 'l':
                return looseNow(acts.first[i], acts.second[i]);
            default:
                real.goDays(acts.first[i]);
                return 0;
        }
    }

    private int sweepNow(int side, int n) {
        if (!town.hasSide(side) || !isWithin(n, 1, MOST_AT_ONCE)) {
            return NONE;
        }
        if (real.state.snow[side] < n) {
            return NOT_SO;
        }
        real.state.shift(side, n);
        return real.state.snow[side ^ 1];
    }

    private int clearNow(int house, int n) {
        if (!town.has(house) || !isWithin(n, 1, MOST_AT_ONCE)) {
            return NONE;
        }
        if (real.state.path[house] < n) {
            return NOT_SO;
        }
        real.state.path[house] -= n;
        return real.state.path[house];
    }

    private int looseNow(int by, int side) {
        if (!town.has(by) || !town.hasSide(side)) {
            return NONE;
        }
        int inches = real.state.snow[side];
        if (inches == 0) {
            return NOT_SO;
        }
        real.slideOff(side, by, true);
        return inches;
    }

    /** Holds what undo() will need, if the call that begins here comes to change something. */
    private void startCall() {
        before.takeFrom(real.state);
        real.clearTally();
    }

    private int remembered(int answer) {
        if (answer >= 0) {
            history.push(before);
        }
        return answer;
    }

    public int undo() {
        if (history.size == 0) {
            return NONE;
        }
        history.pop(real.state);
        return history.size;
    }

    // ---- debts

    public int ring() {
        if (!shortest.find(real.state)) {
            return NOT_SO;
        }
        toldCount = 0;
        for (int i = 0; i < shortest.size; i++) {
            tellMore(shortest.members[i]);
        }
        tellMore(shortest.least);
        return shortest.size;
    }

    public int cancel() {
        if (!shortest.find(real.state)) {
            return NOT_SO;
        }
        startCall();
        return remembered(shortest.clearIn(real.state));
    }

    public int rings() {
        startCall();
        int found = 0;
        int less = 0;
        // Each clearing ends one debt at least, so there are no more rings than debts.
        while (found < DEBTS && shortest.find(real.state)) {
            less += shortest.clearIn(real.state);
            found++;
        }
        tell(less);
        if (found > 0) {
            history.push(before);
        }
        return found;
    }

    public int net(int house) throws NoSuchElementException {
        if (!town.has(house)) {
            throw new NoSuchElementException();
        }
        return real.state.balance(house);
    }

    public int least() {
        int fewest = 0;
        for (int house = 0; house < town.houses; house++) {
            fewest += Math.max(0, real.state.balance(house));
        }
        tell(real.state.owedInAll());
        return fewest;
    }

    public int even() {
        startCall();
        int owed = real.state.owedInAll();
        for (int house = 0; house < HOUSES; house++) {
            tally[house] = real.state.balance(house);
        }
        int debts = real.state.owesAnew(tally);
        tell(owed - real.state.owedInAll());
        return remembered(debts);
    }

    public int debtor() {
        int most = mostOwing();
        if (most == 0) {
            return NOT_SO;
        }
        int house = firstOwing(most);
        tell(most, real.state.creditorsOf(house));
        return house;
    }

    private int mostOwing() {
        int most = 0;
        for (int house = 0; house < town.houses; house++) {
            most = Math.max(most, real.state.owedBy(house));
        }
        return most;
    }

    private int firstOwing(int days) {
        for (int house = 0; house < town.houses; house++) {
            if (real.state.owedBy(house) == days) {
                return house;
            }
        }
        return NONE;
    }

    // ---- June (each HOUSE works one DAY a day for one HOUSE, what it owes first, then in its own hay)

    public int june() {
        int most = mostOwing();
        tell(most == 0 ? NONE : firstOwing(most));
        return most;
    }

    public int hay(int n) {
        if (!isWithin(n, 0, MOST_AHEAD)) {
            return NONE;
        }
        int bits = 0;
        int wanting = 0;
        workThrough(n);
        for (int house = 0; house < town.houses; house++) {
            if (tally[house] >= town.hay[house]) {
                bits |= 1 << house;
            } else {
                wanting += town.hay[house] - tally[house];
            }
        }
        tell(wanting);
        return bits;
    }

    /** Counts in the tally how many days were worked at each house in n days of June. */
    private void workThrough(int n) {
        Arrays.fill(tally, 0);
        for (int house = 0; house < town.houses; house++) {
            int left = n;
            for (int to = 0; to < town.houses; to++) {
                int there = Math.min(left, real.state.debt[house * HOUSES + to]);
                tally[to] += there;
                left -= there;
            }
            tally[house] += left;
        }
    }

    public int works(int house, int n) {
        if (!town.has(house) || !isWithin(n, 1, MOST_AHEAD)) {
            return NONE;
        }
        int last = 0;
        for (int to = 0; to < town.houses; to++) {
            last += real.state.debt[house * HOUSES + to];
            if (n <= last) {
                tell(last - n + 1);
                return to;
            }
        }
        tell(MOST_AHEAD);
        return house;
    }

    public int summer() {
        for (int n = 0; n <= MOST_AHEAD; n++) {
            workThrough(n);
            if (isAllHayIn()) {
                return n;
            }
        }
        return NOT_SO;
    }

    private boolean isAllHayIn() {
        for (int house = 0; house < town.houses; house++) {
            if (tally[house] < town.hay[house]) {
                return false;
            }
        }
        return true;
    }

    // ---- days to come, nobody lifting a hand (nothing changes)

    public int ahead(int n) {
        if (!isWithin(n, 0, MOST_AHEAD)) {
            return NONE;
        }
        trial.walkFrom(real.state, n);
        tell(trial.slides);
        for (int house = 0; house < town.houses; house++) {
            tellMore(trial.owedBy[house]);
        }
        return trial.owed;
    }

    public int slides(int side) {
        if (!town.hasSide(side)) {
            return NONE;
        }
        trial.beginAt(real.state);
        for (int n = 1; n <= MOST_AHEAD; n++) {
            trial.goDay();
            if ((trial.slid >> side & 1) == 1) {
                return n;
            }
        }
        return NOT_SO;
    }

    public int later(int side, int n) {
        if (!town.hasSide(side) || !isWithin(n, 0, MOST_AHEAD)) {
            return NONE;
        }
        trial.walkFrom(real.state, n);
        toldCount = 0;
        for (int house = 0; house < town.houses; house++) {
            tellMore(trial.state.path[house]);
        }
        return trial.state.snow[side];
    }

    public int deepest(int house, int n) {
        if (!town.has(house) || !isWithin(n, 0, MOST_AHEAD)) {
            return NONE;
        }
        int most = real.state.path[house];
        int first = 0;
        trial.beginAt(real.state);
        for (int k = 1; k <= n; k++) {
            trial.goDay();
            if (trial.state.path[house] > most) {
                most = trial.state.path[house];
                first = k;
            }
        }
        tell(first);
        return most;
    }

    public int lord(int n) {
        if (!isWithin(n, 0, MOST_AHEAD)) {
            return NONE;
        }
        trial.walkFrom(real.state, n);
        int lord = NOT_SO;
        int most = 0;
        for (int house = 0; house < town.houses; house++) {
            int more = trial.state.owedTo(house) - real.state.owedTo(house);
            if (more > most) {
                most = more;
                lord = house;
            }
        }
        if (most > 0) {
            tell(most);
        }
        return lord;
    }

    public int worst(int n) {
        if (!isWithin(n, 1, MOST_AHEAD)) {
            return NONE;
        }
        int worst = NOT_SO;
        int most = 0;
        trial.beginAt(real.state);
        for (int k = 1; k <= n; k++) {
            trial.goDay();
            int slid = Integer.bitCount(trial.slid);
            if (slid > most) {
                most = slid;
                worst = k;
            }
        }
        if (most > 0) {
            tell(most);
        }
        return worst;
    }

    public int melt() {
        trial.beginAt(real.state);
        for (int n = 0; n <= MOST_AHEAD; n++) {
            if (trial.state.onRoofs() == 0 && trial.state.onPaths() == 0) {
                return n;
            }
            trial.goDay();
        }
        return NOT_SO;
    }

    public int lazy(int n) {
        if (!isWithin(n, 0, MOST_AHEAD)) {
            return NONE;
        }
        trial.walkFrom(real.state, n);
        int bits = 0;
        for (int house = 0; house < town.houses; house++) {
            if (trial.owedBy[house] == 0) {
                bits |= 1 << house;
            }
        }
        tell(town.allBits() & ~trial.struck);
        return bits;
    }

    public int dig(int house, int v, int n) {
        if (!town.has(house) || !isWithin(v, 0, MOST_INCHES) || !isWithin(n, 0, MOST_AHEAD)) {
            return NONE;
        }
        int most = real.state.path[house];
        if (!staysWithin(house, most, v, n)) {
            return NOT_SO;
        }
        // A path that begins with less never comes to have more: halving finds the least that does.
        int least = 0;
        for (int k = 0; k <= MOST_INCHES && least < most; k++) {
            int middle = (least + most) / 2;
            if (staysWithin(house, middle, v, n)) {
                most = middle;
            } else {
                least = middle + 1;
            }
        }
        return least;
    }

    private boolean staysWithin(int house, int cleared, int v, int n) {
        trial.beginAt(real.state);
        trial.state.path[house] -= cleared;
        for (int k = 0; k < n && trial.state.path[house] <= v; k++) {
            trial.goDay();
        }
        return trial.state.path[house] <= v;
    }

    public int bare(int house, int n) throws NoSuchElementException {
        if (!town.has(house) || !isWithin(n, 0, MOST_AHEAD)) {
            throw new NoSuchElementException();
        }
        trial.walkFrom(real.state, n);
        int owed = trial.owed;
        trial.beginAt(real.state);
        trial.state.snow[2 * house] = 0;
        trial.state.snow[2 * house + 1] = 0;
        trial.goDays(n);
        return owed - trial.owed;
    }

    // ---- hands

    public int best(int n, int hands) {
        return tellSweeping(nights.look(real.state, NONE, n, hands));
    }

    public int own(int house, int n, int hands) {
        return town.has(house) ? tellSweeping(nights.look(real.state, house, n, hands)) : NONE;
    }

    private int tellSweeping(int fewest) {
        if (fewest >= 0) {
            toldCount = 0;
            for (int i = 0; i < nights.count; i++) {
                tellMore(nights.bestRow[i]);
            }
        }
        return fewest;
    }

    public int better(int side, int n) {
        if (!town.hasSide(side) || !isWithin(n, 1, MOST_AHEAD)) {
            return NONE;
        }
        if (real.state.snow[side] == 0) {
            return NOT_SO;
        }
        int so = owedFrom(real.state, side, n, true);
        int otherwise = owedFrom(real.state, side, n, false);
        tell(so, otherwise);
        return so < otherwise ? 1 : 0;
    }

    /** What the house of a side comes to owe in n days, if it sets off that side first, or not. */
    private int owedFrom(State from, int side, int n, boolean setOff) {
        int house = side / 2;
        trial.beginAt(from);
        if (setOff) {
            trial.slideOff(side, house, true);
        }
        trial.goDays(n);
        return trial.owedBy[house];
    }

    public int rests(int n, int m) {
        if (!isWithin(n, 1, MOST_REST) || !isWithin(m, 0, MOST_ROUNDS)) {
            return NONE;
        }
        round.beginAt(real.state);
        int bits = 0;
        for (int k = 1; k <= m; k++) {
            int ahead = bits;
            for (int side = 0; side < 2 * town.houses; side++) {
                if (isBetterLoose(side, n)) {
                    round.slideOff(side, side / 2, true);
                    bits |= 1 << side;
                }
            }
            // What was set off has no snow any more, so each round that sets off a side has a bit more.
            if (bits == ahead) {
                tell(1, bits);
                return k;
            }
        }
        tell(0, bits);
        return m;
    }

    private boolean isBetterLoose(int side, int n) {
        return round.state.snow[side] > 0
                && owedFrom(round.state, side, n, true) < owedFrom(round.state, side, n, false);
    }

    // ---- roofs

    public int rough(int v, int n) {
        if (!isWithin(v, 1, MOST_HOLD) || !isWithin(n, 0, MOST_AHEAD)) {
            return NONE;
        }
        return bestRoof(v, n);
    }

    public int turned(int n) {
        if (!isWithin(n, 0, MOST_AHEAD)) {
            return NONE;
        }
        return bestRoof(NONE, n);
    }

    /** The house that had best have another HOLD, or (NONE) its sides turned. */
    private int bestRoof(int hold, int n) {
        int best = NOT_SO;
        int fewest = ENDLESS;
        for (int house = 0; house < town.houses; house++) {
            int old = town.rebuild(house, hold);
            trial.walkFrom(real.state, n);
            town.rebuild(house, old);
            if (trial.owed < fewest) {
                fewest = trial.owed;
                best = house;
            }
        }
        if (best >= 0) {
            tell(fewest);
        }
        return best;
    }

    public int needs(int house, int n) {
        if (!town.has(house) || !isWithin(n, 0, MOST_AHEAD)) {
            return NONE;
        }
        int old = town.hold[house];
        int needed = NOT_SO;
        for (int hold = 1; hold <= MOST_HOLD && needed == NOT_SO; hold++) {
            town.hold[house] = hold;
            if (owesNothing(house, n)) {
                needed = hold;
            }
        }
        town.hold[house] = old;
        return needed;
    }

    private boolean owesNothing(int house, int n) {
        trial.beginAt(real.state);
        for (int k = 0; k < n && trial.owedBy[house] == 0; k++) {
            trial.goDay();
        }
        return trial.owedBy[house] == 0;
    }

    public int premium(int n) throws NoSuchElementException {
        int houses = town.houses;
        if (houses == 0 || !isWithin(n, 0, MOST_AHEAD)) {
            throw new NoSuchElementException();
        }
        trial.walkFrom(real.state, n);
        int most = 0;
        toldCount = 0;
        for (int house = 0; house < houses; house++) {
            most = Math.max(most, trial.owedBy[house]);
            tellMore(trial.owed / houses + (house < trial.owed % houses ? 1 : 0));
        }
        return most - told[0];
    }

    // ---- tracks

    public int track(int house, int day) {
        return town.has(house) ? tracks.add(house, day) : NONE;
    }

    public int thaw() {
        return tracks.forget();
    }

    public int suspects(int days) {
        if (days < 0) {
            return NONE;
        }
        int bits = town.allBits();
        tracks.gather();
        for (int day = 0; day < Tracks.NIGHTS; day++) {
            if ((days >> day & 1) == 1) {
                bits &= tracks.out[day];
            }
        }
        return bits;
    }

    public int gang(int days) {
        if (days < 0) {
            return NONE;
        }
        int fewest = NONE;
        int size = HOUSES + 1;
        tracks.gather();
        for (int bits = 0; bits <= town.allBits(); bits++) {
            if (Integer.bitCount(bits) < size && tracks.areSeen(bits, days)) {
                fewest = bits;
                size = Integer.bitCount(bits);
            }
        }
        if (fewest == NONE) {
            return NOT_SO;
        }
        tell(fewest);
        return size;
    }

    // ---- kept

    public boolean keep(int i) {
        if (!isWithin(i, 0, KEPT - 1)) {
            return false;
        }
        kept[i].takeFrom(real.state);
        keptHouses[i] = town.houses;
        return true;
    }

    public boolean again(int i) {
        if (!isWithin(i, 0, KEPT - 1) || keptHouses[i] != town.houses) {
            return false;
        }
        real.state.takeFrom(kept[i]);
        history.forget();
        return true;
    }

    public int count(int what) {
        switch (what) {
            case 0:
                return town.houses;
            case 1:
                return real.state.now;
            case 2:
                return real.state.onRoofs();
            case 3:
                return real.state.onPaths();
            case 4:
                return real.state.owedInAll();
            case 5:
                return weather.length;
            case 6:
                return history.size;
            case 7:
                return tracks.size;
            case 8:
                return toldCount;
            case 9:
                return text.length;
            default:
                return NONE;
        }
    }

    public int row(int i) throws NoSuchElementException {
        if (i < 0 || i >= toldCount || i >= ROW) {
            throw new NoSuchElementException();
        }
        return told[i];
    }

    private void tell(int number) {
        toldCount = 0;
        tellMore(number);
    }

    private void tell(int number, int next) {
        tell(number);
        tellMore(next);
    }

    private void tellMore(int number) {
        if (toldCount < ROW) {
            told[toldCount] = number;
            toldCount++;
        }
    }

    private static boolean isWithin(int v, int least, int most) {
        return v >= least && v <= most;
    }

    /** THE TEXT, and the place up to which it has been read: where a reading fails, the sign that can't stand. */
    private static final class Text {
        private static final int MOST = 80;
        private static final int AT_ONCE = 4;

        private final int[] signs = new int[MOST];
        private int length;
        private int place;
        private int limit;

        int append(int v) {
            if (length > MOST - AT_ONCE) {
                return NONE;
            }
            for (int i = 0; i < AT_ONCE; i++) {
                signs[length + i] = v >>> (24 - 8 * i) & 255;
            }
            length += AT_ONCE;
            return length;
        }

        boolean cut(int n) {
            if (n < 0 || n > length) {
                return false;
            }
            length = n;
            return true;
        }

        void empty() {
            length = 0;
        }

        void open(int most) {
            place = 0;
            limit = Math.min(length, most);
        }

        /** The sign that comes next, NONE behind the last one that may be read. */
        int peek() {
            return place < limit && place < MOST ? signs[place] : NONE;
        }

        void skip() {
            place++;
        }

        void stepBack() {
            place--;
        }

        boolean take(int sign) {
            if (peek() != sign) {
                return false;
            }
            place++;
            return true;
        }

        int takeDigit(int least, int most) {
            int digit = peek() - '0';
            if (digit < least || digit > most) {
                return NONE;
            }
            place++;
            return digit;
        }

        int takeNumber(int digits) {
            int number = takeDigit(0, 9);
            for (int i = 1; i < digits && number >= 0; i++) {
                int digit = takeDigit(0, 9);
                if (digit < 0) {
                    return number;
                }
                number = 10 * number + digit;
            }
            return number;
        }

        /** Nothing is left, not even signs beyond those that may be read. */
        boolean isThrough() {
            return place == length;
        }

        int fault() {
            return -1 - place;
        }
    }

    /** THE TOWN: what of the houses the days do not change. */
    private static final class Town {
        private static final int MOST_SIGNS = 76;

        private final int[] hold = new int[HOUSES];
        private final int[] below = new int[SIDES];
        private final int[] hay = new int[HOUSES];
        private int houses;

        boolean has(int house) {
            return house >= 0 && house < houses;
        }

        boolean hasTwo(int house, int other) {
            return has(house) && has(other) && house != other;
        }

        boolean hasSide(int side) {
            return side >= 0 && side < 2 * houses;
        }

        int allBits() {
            return (1 << houses) - 1;
        }

        /** Gives a house another HOLD, or (NONE) turns its sides: what undoes it. */
        int rebuild(int house, int strength) {
            if (!has(house)) {
                return NONE;
            }
            if (strength != NONE) {
                int old = hold[house];
                hold[house] = strength;
                return old;
            }
            int first = below[2 * house];
            below[2 * house] = below[2 * house + 1];
            below[2 * house + 1] = first;
            return NONE;
        }

        int read(Text text) {
            text.open(MOST_SIGNS);
            if (text.isThrough()) {
                return 0;
            }
            // Lines are laid behind the houses that are there, where nobody sees them till all are good.
            for (int line = houses; line < HOUSES; line++) {
                if (!readLine(text, line)) {
                    return text.fault();
                }
                if (!text.take(';')) {
                    return text.isThrough() ? growTo(line + 1) : text.fault();
                }
            }
            return text.fault();
        }

        private int growTo(int count) {
            int more = count - houses;
            houses = count;
            return more;
        }

        private boolean readLine(Text text, int house) {
            int strength = text.takeNumber(2);
            if (strength == 0) {
                text.stepBack();
            }
            if (strength <= 0 || !text.take(',')) {
                return false;
            }
            int first = text.takeDigit(0, HOUSES - 1);
            int second = first < 0 ? NONE : text.takeDigit(0, HOUSES - 1);
            if (second < 0) {
                return false;
            }
            int stacks = text.take('*') ? readHay(text) : 0;
            if (stacks < 0) {
                return false;
            }
            hold[house] = strength;
            below[2 * house] = first;
            below[2 * house + 1] = second;
            hay[house] = stacks;
            return true;
        }

        private int readHay(Text text) {
            int stacks = text.takeNumber(2);
            if (stacks > MOST_HAY) {
                text.stepBack();
                return NONE;
            }
            return stacks;
        }
    }

    /** THE WEATHER: inches that fall day by day, below 0 what thaws. */
    private static final class Weather {
        private static final int MOST = 40;

        private final int[] inches = new int[MOST];
        private int length;
        /** After how many days it begins again: 1 without any weather, as nothing every day. */
        private int cycle = 1;

        int read(Text text) {
            text.open(MOST);
            for (int i = 0; i < MOST && text.peek() >= 0; i++) {
                if (!isWeather(text.peek())) {
                    return text.fault();
                }
                text.skip();
            }
            if (!text.isThrough()) {
                return text.fault();
            }
            text.open(MOST);
            length = 0;
            inches[0] = 0;
            for (int i = 0; i < MOST && text.peek() >= 0; i++) {
                int sign = text.peek();
                inches[i] = sign <= '9' ? sign - '0' : 'a' - 1 - sign;
                length++;
                text.skip();
            }
            cycle = Math.max(1, length);
            return length;
        }

        private static boolean isWeather(int sign) {
            return sign >= '0' && sign <= '9' || sign >= 'a' && sign <= 'i';
        }

        int draw(int seed, int n) {
            int r = seed;
            int snowy = 0;
            length = Math.max(1, Math.min(n, MOST));
            cycle = length;
            for (int i = 0; i < length; i++) {
                r = r * 1103515245 + 12345;
                int drawn = (r >>> 16) % 16;
                inches[i] = drawn < 10 ? drawn : 9 - drawn;
                if (inches[i] > 0) {
                    snowy++;
                }
            }
            return snowy;
        }

        int inchesIn(int day) {
            // Java 17's compiler may divide ahead of this test, and crash by a 0: cycle never is one.
            return cycle < 1 || day < 0 ? 0 : inches[day % cycle];
        }
    }

    /** THE RULE, held as numbers, things and signs in the order in which a stack takes them. */
    private static final class Rule {
        private static final int MOST = 40;
        private static final int MOST_WITHIN = 4;
        private static final int MOST_OWED = 99;
        private static final String THINGS = "dptonxhb";
        /** Codes below are numbers; from here on things by their place in THINGS. */
        private static final int THING = 1000;
        /** From here on signs between two, by their character; the sign ahead of a thing is NEGATE. */
        private static final int BETWEEN = 2000;
        private static final int NEGATE = 3000;

        private final int[] code = new int[MOST];
        private final int[] draft = new int[MOST];
        private final int[] stack = new int[MOST];
        /** Of the slide that is put to the rule, in the order of THINGS. */
        private final int[] things = new int[8];
        private int length;
        private int drafted;

        int read(Text text) {
            text.open(MOST);
            drafted = 0;
            if (!text.isThrough() && !(readComparison(text, 0) && text.isThrough())) {
                return text.fault();
            }
            System.arraycopy(draft, 0, code, 0, MOST);
            length = drafted;
            return 0;
        }

        private void put(int c) {
            if (drafted < MOST) {
                draft[drafted] = c;
                drafted++;
            }
        }

        private boolean readComparison(Text text, int depth) {
            if (!readSum(text, depth)) {
                return false;
            }
            int sign = text.peek();
            if (sign != '<' && sign != '>' && sign != '=') {
                return true;
            }
            text.skip();
            if (!readSum(text, depth)) {
                return false;
            }
            put(BETWEEN + sign);
            return true;
        }

        private boolean readSum(Text text, int depth) {
            boolean good = readProduct(text, depth);
            for (int i = 0; i < MOST && good; i++) {
                int sign = text.peek();
                if (sign != '+' && sign != '-') {
                    return true;
                }
                text.skip();
                good = readProduct(text, depth);
                put(BETWEEN + sign);
            }
            return good;
        }

        private boolean readProduct(Text text, int depth) {
            boolean good = readFactor(text, depth);
            for (int i = 0; i < MOST && good; i++) {
                int sign = text.peek();
                if (sign != '*' && sign != '/') {
                    return true;
                }
                text.skip();
                good = readFactor(text, depth);
                put(BETWEEN + sign);
            }
            return good;
        }

        private boolean readFactor(Text text, int depth) {
            int minuses = 0;
            while (minuses < MOST && text.take('-')) {
                minuses++;
            }
            if (!readThing(text, depth)) {
                return false;
            }
            if (minuses % 2 == 1) {
                put(NEGATE);
            }
            return true;
        }

        private boolean readThing(Text text, int depth) {
            int sign = text.peek();
            if (sign == '(') {
                if (depth >= MOST_WITHIN) {
                    return false;
                }
                text.skip();
                return readComparison(text, depth + 1) && text.take(')');
            }
            if (sign >= '0' && sign <= '9') {
                put(text.takeNumber(3));
                return true;
            }
            int thing = sign < 0 ? NONE : THINGS.indexOf((char) sign);
            if (thing < 0) {
                return false;
            }
            text.skip();
            put(THING + thing);
            return true;
        }

        /** Days that the slide told in things owes. */
        int daysOwed() {
            int top = 0;
            stack[0] = things[0];
            for (int i = 0; i < length && i < MOST; i++) {
                int c = code[i];
                if (c == NEGATE) {
                    if (top >= 1) {
                        stack[top - 1] = -stack[top - 1];
                    }
                } else if (c >= BETWEEN) {
                    if (top >= 2) {
                        top--;
                        stack[top - 1] = join(c - BETWEEN, stack[top - 1], stack[top]);
                    }
                } else if (top < MOST) {
                    stack[top] = c < THING ? c : things[c - THING & 7];
                    top++;
                }
            }
            return Math.max(0, Math.min(MOST_OWED, stack[0]));
        }

        private static int join(int sign, int a, int b) {
            switch (sign) {
                case '+':
                    return a + b;
                case '-':
                    return a - b;
                case '*':
                    return a * b;
                case '/':
                    return b == 0 ? 0 : a / b;
                case '<':
                    return a < b ? 1 : 0;
                case '>':
                    return a > b ? 1 : 0;
                default:
                    return a == b ? 1 : 0;
            }
        }
    }

    /** SNOW, DEBTS and NOW: what undo() and again() bring back. Houses that are not there have 0 of all. */
    private static final class State {
        private final int[] snow = new int[SIDES];
        private final int[] path = new int[HOUSES];
        private final int[] debt = new int[DEBTS];
        private int now;

        void takeFrom(State other) {
            System.arraycopy(other.snow, 0, snow, 0, SIDES);
            System.arraycopy(other.path, 0, path, 0, HOUSES);
            System.arraycopy(other.debt, 0, debt, 0, DEBTS);
            now = other.now;
        }

        int onRoofs() {
            return sumOf(snow);
        }

        int onPaths() {
            return sumOf(path);
        }

        int owedInAll() {
            return sumOf(debt);
        }

        private static int sumOf(int[] cells) {
            int sum = 0;
            for (int cell : cells) {
                sum += cell;
            }
            return sum;
        }

        int owedBy(int house) {
            int sum = 0;
            for (int to = 0; to < HOUSES; to++) {
                sum += debt[house * HOUSES + to];
            }
            return sum;
        }

        int owedTo(int house) {
            int sum = 0;
            for (int from = 0; from < HOUSES; from++) {
                sum += debt[from * HOUSES + house];
            }
            return sum;
        }

        int balance(int house) {
            return owedTo(house) - owedBy(house);
        }

        int creditorsOf(int house) {
            int creditors = 0;
            for (int to = 0; to < HOUSES; to++) {
                if (debt[house * HOUSES + to] > 0) {
                    creditors++;
                }
            }
            return creditors;
        }

        /** Sweeps what lies on a side, so many inches at most, to the other side: how many inches went. */
        int shift(int side, int most) {
            int inches = Math.min(most, snow[side]);
            snow[side] -= inches;
            snow[side ^ 1] = Math.min(MOST_INCHES, snow[side ^ 1] + inches);
            return inches;
        }

        private static int lying(int inches) {
            return Math.max(0, Math.min(MOST_INCHES, inches));
        }

        void owe(int from, int to, int days) {
            int i = from * HOUSES + to;
            debt[i] = Math.min(MOST_DEBT, debt[i] + days);
        }

        /** Makes all debts anew by what each house is ahead (below 0: behind): how many debts there are then. */
        int owesAnew(int[] balances) {
            int debts = 0;
            Arrays.fill(debt, 0);
            for (int from = 0; from < HOUSES; from++) {
                for (int to = 0; to < HOUSES; to++) {
                    int days = Math.min(MOST_DEBT, Math.min(-balances[from], balances[to]));
                    if (days > 0) {
                        debt[from * HOUSES + to] = days;
                        balances[from] += days;
                        balances[to] -= days;
                        debts++;
                    }
                }
            }
            return debts;
        }
    }

    /** A state that days go over, and what came of them since the tally was cleared. */
    private static final class Walk {
        private final Town town;
        private final Weather weather;
        private final Rule rule;
        private final State state = new State();
        private final int[] owedBy = new int[HOUSES];
        private int owed;
        private int slides;
        /** Houses (bits) onto whose path another roof's snow slid by itself. */
        private int struck;
        /** Sides (bits) that slid on the latest day. */
        private int slid;

        Walk(Town town, Weather weather, Rule rule) {
            this.town = town;
            this.weather = weather;
            this.rule = rule;
        }

        void beginAt(State from) {
            state.takeFrom(from);
            clearTally();
        }

        void walkFrom(State from, int n) {
            beginAt(from);
            for (int i = 0; i < n; i++) {
                goDay();
            }
        }

        void clearTally() {
            Arrays.fill(owedBy, 0);
            owed = 0;
            slides = 0;
            struck = 0;
            slid = 0;
        }

        /** Goes on from where another walk is; of its tally only what is owed comes along. */
        void follow(Walk other) {
            state.takeFrom(other.state);
            System.arraycopy(other.owedBy, 0, owedBy, 0, HOUSES);
            owed = other.owed;
        }

        void goDays(int n) {
            for (int i = 0; i < n; i++) {
                goDay();
            }
        }

        void goDay() {
            int inches = weather.inchesIn(state.now);
            int thawed = Math.max(0, -inches);
            slid = 0;
            if (inches != 0) {
                fallOnTown(inches);
            }
            for (int side = 0; side < 2 * town.houses; side++) {
                int house = side / 2;
                if (state.snow[side] > Math.max(0, town.hold[house] - thawed)) {
                    slid |= 1 << side;
                    slides++;
                    struck |= town.below[side] == house ? 0 : 1 << town.below[side];
                    slideOff(side, house, false);
                }
            }
            state.now++;
        }

        private void fallOnTown(int inches) {
            for (int side = 0; side < 2 * town.houses; side++) {
                state.snow[side] = State.lying(state.snow[side] + inches);
            }
            for (int house = 0; house < town.houses; house++) {
                state.path[house] = State.lying(state.path[house] + inches);
            }
        }

        /** A slide, for which a house is to blame. */
        void slideOff(int side, int blamed, boolean setOff) {
            int below = town.below[side];
            int inches = state.snow[side];
            state.snow[side] = 0;
            if (!town.has(below)) {
                return;
            }
            int lay = state.path[below];
            state.path[below] = State.lying(lay + inches);
            if (inches > 0 && blamed != below) {
                rule.things[0] = inches;
                rule.things[1] = lay;
                rule.things[2] = Math.max(0, -weather.inchesIn(state.now));
                rule.things[3] = town.hold[side / 2];
                rule.things[4] = state.now;
                rule.things[5] = setOff ? 1 : 0;
                rule.things[6] = side / 2;
                rule.things[7] = below;
                int days = rule.daysOwed();
                state.owe(blamed, below, days);
                owedBy[blamed] += days;
                owed += days;
            }
        }
    }

    /** The latest states ahead of calls that can be undone. */
    private static final class History {
        private static final int MOST = 12;

        private final State[] states = new State[MOST];
        private int size;
        /** Where the next one comes; the oldest one makes room. */
        private int next;

        History() {
            for (int i = 0; i < MOST; i++) {
                states[i] = new State();
            }
        }

        void push(State state) {
            states[next].takeFrom(state);
            next = (next + 1) % MOST;
            size = Math.min(MOST, size + 1);
        }

        void pop(State into) {
            next = (next + MOST - 1) % MOST;
            into.takeFrom(states[next]);
            size--;
        }

        void forget() {
            size = 0;
        }
    }

    /** A NIGHT: acts with up to two numbers each. */
    private static final class Acts {
        private static final int MOST = 30;
        private static final int MOST_SIGNS = 60;

        private final int[] kind = new int[MOST];
        private final int[] first = new int[MOST];
        private final int[] second = new int[MOST];
        private int size;

        boolean read(Text text) {
            text.open(MOST_SIGNS);
            size = 0;
            if (text.isThrough()) {
                return true;
            }
            // More acts than fit here do not fit into so many signs either.
            for (int i = 0; i < MOST; i++) {
                if (!readAct(text, i)) {
                    return false;
                }
                size++;
                if (!text.take(';')) {
                    return text.isThrough();
                }
            }
            return false;
        }

        private boolean readAct(Text text, int i) {
            kind[i] = text.peek();
            switch (kind[i]) {
                case 's':
                    text.skip();
                    first[i] = readSide(text);
                    return first[i] >= 0 && readInches(text, i);
                case 'c':
                    text.skip();
                    first[i] = text.takeDigit(0, 9);
                    return first[i] >= 0 && readInches(text, i);
                case 'l':
                    text.skip();
                    first[i] = text.takeDigit(0, 9);
                    second[i] = first[i] < 0 ? NONE : readSide(text);
                    return second[i] >= 0;
                case 'd':
                    text.skip();
                    first[i] = Math.max(1, text.takeDigit(1, 9));
                    return true;
                default:
                    return false;
            }
        }

        private static int readSide(Text text) {
            int house = text.takeDigit(0, 9);
            int side = house < 0 ? NONE : text.takeDigit(0, 1);
            return side < 0 ? NONE : 2 * house + side;
        }

        private boolean readInches(Text text, int i) {
            second[i] = text.take('*') ? text.takeNumber(2) : NONE;
            return second[i] >= 0;
        }
    }

    /** The shortest ring of debts, of as short ones the one with the least row. */
    private static final class Ring {
        private static final int FAR = 99;

        private final int[] members = new int[HOUSES];
        /** How many debts lead from a house back to the ring's least house, by houses above that one. */
        private final int[] steps = new int[HOUSES];
        private int size;
        private int least;

        boolean find(State state) {
            size = FAR;
            for (int start = 0; start < HOUSES; start++) {
                measure(state, start);
                int length = lengthFrom(state, start);
                if (length < size) {
                    size = length;
                    lay(state, start);
                }
            }
            return size < FAR;
        }

        private void measure(State state, int start) {
            Arrays.fill(steps, FAR);
            steps[start] = 0;
            for (int k = 1; k < HOUSES; k++) {
                for (int from = start + 1; from < HOUSES; from++) {
                    steps[from] = Math.min(steps[from], 1 + nearest(state, from, start));
                }
            }
        }

        private int nearest(State state, int from, int start) {
            int fewest = FAR;
            for (int to = start; to < HOUSES; to++) {
                if (state.debt[from * HOUSES + to] > 0) {
                    fewest = Math.min(fewest, steps[to]);
                }
            }
            return fewest;
        }

        private int lengthFrom(State state, int start) {
            int fewest = FAR;
            for (int to = start + 1; to < HOUSES; to++) {
                if (state.debt[start * HOUSES + to] > 0) {
                    fewest = Math.min(fewest, 1 + steps[to]);
                }
            }
            return fewest;
        }

        private void lay(State state, int start) {
            int from = start;
            members[0] = start;
            least = MOST_DEBT;
            for (int i = 1; i <= size && i <= HOUSES; i++) {
                int to = nextOf(state, from, start, size - i);
                least = Math.min(least, state.debt[from * HOUSES + to]);
                if (i < size && i < HOUSES) {
                    members[i] = to;
                }
                from = to;
            }
        }

        private int nextOf(State state, int from, int start, int left) {
            for (int to = start; to < HOUSES; to++) {
                if (state.debt[from * HOUSES + to] > 0 && steps[to] == left) {
                    return to;
                }
            }
            return start;
        }

        /** Clears the ring that was found: how many days less in all. */
        int clearIn(State state) {
            for (int i = 0; i < size && i < HOUSES; i++) {
                int to = i + 1 < size && i + 1 < HOUSES ? members[i + 1] : members[0];
                state.debt[members[i] * HOUSES + to] -= least;
            }
            return least * size;
        }
    }

    /** The search for the best sweeping, night by night. */
    private static final class Hands {
        private static final int NO_SIDE = 14;

        /** Number k: behind k nights and days. */
        private final Walk[] walks = new Walk[MOST_NIGHTS + 1];
        private final int[] chosen = new int[MOST_NIGHTS];
        private final int[] bestRow = new int[MOST_NIGHTS];
        private int house;
        private int count;
        private int inches;
        private int fewest;

        Hands(Town town, Weather weather, Rule rule) {
            for (int i = 0; i <= MOST_NIGHTS; i++) {
                walks[i] = new Walk(town, weather, rule);
            }
        }

        /** The fewest days owed by a house that sweeps its own roof (NONE: by all, all roofs). */
        int look(State from, int whose, int n, int most) {
            if (!isWithin(n, 1, MOST_NIGHTS) || !isWithin(most, 1, MOST_AT_ONCE)) {
                return NONE;
            }
            house = whose;
            count = n;
            inches = most;
            fewest = ENDLESS;
            walks[0].beginAt(from);
            tryNight(0);
            return fewest;
        }

        private void tryNight(int night) {
            if (night >= count || night >= MOST_NIGHTS) {
                fewest = costOf(walks[night]);
                System.arraycopy(chosen, 0, bestRow, 0, MOST_NIGHTS);
                return;
            }
            Walk from = walks[night];
            Walk to = walks[night + 1];
            for (int side = 0; side <= NO_SIDE; side++) {
                if (side == NO_SIDE || isChoice(from.state, side)) {
                    to.follow(from);
                    if (side < NO_SIDE) {
                        to.state.shift(side, inches);
                    }
                    to.goDay();
                    chosen[night] = side;
                    // Rows come in their order and debts only grow: one that is not less by now can't be best.
                    if (costOf(to) < fewest) {
                        tryNight(night + 1);
                    }
                }
            }
        }

        private boolean isChoice(State state, int side) {
            return state.snow[side] > 0 && (house == NONE || side / 2 == house);
        }

        private int costOf(Walk walk) {
            return house >= 0 && house < HOUSES ? walk.owedBy[house] : walk.owed;
        }
    }

    /** Tracks: who was out in which night. */
    private static final class Tracks {
        private static final int MOST = 20;
        private static final int MOST_TRACK_DAY = 999;
        /** Nights that bits can tell of. */
        private static final int NIGHTS = 31;

        private final int[] house = new int[MOST];
        private final int[] night = new int[MOST];
        /** Houses (bits) that were out, night by night. */
        private final int[] out = new int[NIGHTS];
        private int size;

        int add(int who, int day) {
            if (size >= MOST || day < 0 || day > MOST_TRACK_DAY) {
                return NONE;
            }
            house[size] = who;
            night[size] = day;
            size++;
            return size;
        }

        int forget() {
            int were = size;
            size = 0;
            return were;
        }

        /** Lays out by nights what was told by tracks. */
        void gather() {
            Arrays.fill(out, 0);
            for (int i = 0; i < size && i < MOST; i++) {
                if (night[i] < NIGHTS) {
                    out[night[i]] |= 1 << house[i];
                }
            }
        }

        boolean areSeen(int houses, int days) {
            for (int day = 0; day < NIGHTS; day++) {
                if ((days >> day & 1) == 1 && (out[day] & houses) == 0) {
                    return false;
                }
            }
            return true;
        }
    }
}
