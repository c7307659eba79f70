/**
 * A wall of columns that gives soup for worn pennies. The promises that the comments
 * speak of are those of the project's document.
 */
public final class SoupWall {
    public static final int NONE = -1, UNKNOWN = -1000000001, OUTSIDE = -1000000002, NOT = -1000000003, FULL = -1000000004;

    private static final int MOST_BYTES = 400;
    private static final int MOST_KINDS = 5;
    private static final int MOST_COLUMNS = 5;
    private static final int MOST_SLUGS = 5;
    private static final int MOST_HELD = 60;
    private static final int MOST_TOLD = 99;
    private static final int MOST_COUNTED = 999999999;
    private static final int MOST_RHYTHM = 6;
    private static final int JAMMED_AT = 10;
    private static final int MOST_BUYERS = 8;
    private static final int MOST_TRIES = 10;
    private static final int MOST_TRY = 8;
    private static final int MOST_PUT_IN = 8;
    private static final int MOST_FILLED = 5;
    private static final int MOST_DAYS = 99;
    private static final int SALES_A_DAY = 4;
    private static final int IMAGES = 2;
    /** Rows of eight coins over five kinds are 495: the loops over rows end above that. */
    private static final int MOST_ROWS = 1000;

    private final Text text = new Text();
    private final Reader reader = new Reader(text);
    private final State[] images = new State[IMAGES];
    private final boolean[] kept = new boolean[IMAGES];
    private final Buyers buyers = new Buyers();
    private final Tries tries = new Tries();
    /** What is tried is tried on this one, so that nothing of the state now changes. */
    private final State trial = new State();
    private final Row row = new Row();
    private Plan plan = new Plan();
    private State now = new State();
    private int faultAt = NONE;

    public SoupWall() {
        for (int i = 0; i < IMAGES; i++) {
            images[i] = new State();
        }
    }

    // ---- the wall

    public int feed(int n, long bytes) {
        if (n < 1 || n > 8) {
            return OUTSIDE;
        }
        if (text.length + n > MOST_BYTES) {
            return FULL;
        }
        for (int i = n - 1; i >= 0; i--) {
            text.append((int) (bytes >> (8 * i)) & 255);
        }
        return text.length;
    }

    public int wall() {
        reader.read();
        text.length = 0;
        faultAt = reader.faultAt;
        if (reader.fault != 0) {
            return -10 - reader.fault;
        }
        reader.start.seed = now.seed;
        takeOverWhatWasRead();
        buyers.count = 0;
        tries.count = 0;
        for (int i = 0; i < IMAGES; i++) {
            kept[i] = false;
        }
        return plan.columns;
    }

    /** The reader gets the old objects to write its next reading on, so that none is made anew. */
    private void takeOverWhatWasRead() {
        Plan oldPlan = plan;
        State oldState = now;
        plan = reader.plan;
        now = reader.start;
        reader.plan = oldPlan;
        reader.start = oldState;
    }

    public int fault() {
        return faultAt;
    }

    public int told(int what) {
        switch (what) {
            case 0: return plan.kinds;
            case 1: return plan.columns;
            case 2: return plan.slugs;
            case 3: return text.length;
            case 4: return now.lost;
            case 5: return now.stamps;
            case 6: return now.sales;
            case 7: return now.damp;
            case 8: return now.worn;
            case 9: return buyers.count;
            case 10: return tries.count;
            case 11: return plan.valueOfTubes(now);
            default: return OUTSIDE;
        }
    }

    public int coin(int k, int what) {
        if (!plan.isKind(k)) {
            return UNKNOWN;
        }
        switch (what) {
            case 0: return plan.value[k];
            case 1: return plan.weight[k];
            case 2: return plan.weightNow(now, k);
            case 3: return now.tube[k];
            case 4: return plan.columnsPassedBy(now, k);
            default: return OUTSIDE;
        }
    }

    public int column(int c, int what) {
        if (!plan.isColumn(c)) {
            return UNKNOWN;
        }
        switch (what) {
            case 0: return now.price[c];
            case 1: return now.low[c];
            case 2: return now.high[c];
            case 3: return now.goods[c];
            case 4: return now.stick[c];
            case 5: return now.isJammed(c) ? 1 : 0;
            case 6: return now.wired[c];
            case 7: return plan.kindsWithin(now, now.low[c], now.high[c]);
            case 8: return plan.slugsWithin(now.low[c], now.high[c]);
            default: return OUTSIDE;
        }
    }

    // ---- what is done

    public int buy(int c, int k, int n) {
        if (!plan.isColumn(c) || !plan.isKind(k)) {
            return UNKNOWN;
        }
        if (n < 1 || n > MOST_TOLD) {
            return OUTSIDE;
        }
        return plan.sell(now, c, k, n);
    }

    public int kick(int c, int side) {
        if (!plan.isColumn(c)) {
            return UNKNOWN;
        }
        if (side != 0 && side != 1) {
            return OUTSIDE;
        }
        if (!now.isJammed(c)) {
            return NOT;
        }
        now.addKick(c, side);
        if (!plan.isRhythm(c, now.kicks[c], now.kickCount[c])) {
            return 0;
        }
        now.setFree(c);
        return 1;
    }

    public int damp(int v) {
        if (v < 0 || v > 9) {
            return OUTSIDE;
        }
        int old = now.damp;
        now.damp = v;
        return old;
    }

    public int wear(int v) {
        if (v < 0 || v > 9) {
            return OUTSIDE;
        }
        int old = now.worn;
        now.worn = v;
        return old;
    }

    public int stock(int c, int n) {
        return plan.isColumn(c) ? replaced(now.goods, c, n, 0, MOST_HELD) : UNKNOWN;
    }

    public int tube(int k, int n) {
        return plan.isKind(k) ? replaced(now.tube, k, n, 0, MOST_HELD) : UNKNOWN;
    }

    public int price(int c, int v) {
        return plan.isColumn(c) ? replaced(now.price, c, v, 1, MOST_TOLD) : UNKNOWN;
    }

    /** Puts v at i, if it is in its bounds: what was there. */
    private static int replaced(int[] numbers, int i, int v, int least, int most) {
        if (v < least || v > most || i < 0 || i >= numbers.length) {
            return OUTSIDE;
        }
        int old = numbers[i];
        numbers[i] = v;
        return old;
    }

    public int span(int c, int a, int b) {
        if (!plan.isColumn(c)) {
            return UNKNOWN;
        }
        if (a < 1 || b > MOST_TOLD || b < a) {
            return OUTSIDE;
        }
        int old = 100 * now.low[c] + now.high[c];
        now.low[c] = a;
        now.high[c] = b;
        return old;
    }

    public int wire(int c, int d) {
        if (!plan.isColumn(c) || !plan.isColumn(d)) {
            return UNKNOWN;
        }
        int old = now.wired[c];
        now.wired[c] = d;
        return old;
    }

    public int drift(int n) {
        if (n < 1 || n > MOST_DAYS) {
            return OUTSIDE;
        }
        if (plan.kinds == 0 || plan.columns == 0) {
            return NOT;
        }
        int made = 0;
        for (int day = 0; day < n; day++) {
            now.damp = now.draw(4);
            for (int i = 0; i < SALES_A_DAY; i++) {
                made += sellByDraws() ? 1 : 0;
            }
        }
        return made;
    }

    /** The three draws are made whether the sale can be or not. */
    private boolean sellByDraws() {
        int c = now.draw(plan.columns);
        int k = now.draw(plan.kinds);
        int n = now.draw(6) + 1;
        return plan.sell(now, c, k, n) != NOT;
    }

    // ---- tried

    public int fewest(int c, int k) {
        if (!plan.isColumn(c) || !isKindOrNone(k)) {
            return UNKNOWN;
        }
        return findRow(c, 1, MOST_PUT_IN) ? coinsOfRow(k) : NONE;
    }

    public int buyer(int c, int k, int n) {
        if (!plan.isColumn(c) || !plan.isKind(k)) {
            return UNKNOWN;
        }
        if (n < 1 || n > MOST_TOLD) {
            return OUTSIDE;
        }
        return buyers.add(c, k, n) ? buyers.count : FULL;
    }

    public int fill(int k) {
        if (!isKindOrNone(k)) {
            return UNKNOWN;
        }
        return findRow(NONE, 0, MOST_FILLED) ? coinsOfRow(k) : NONE;
    }

    private boolean isKindOrNone(int k) {
        return k == NONE || plan.isKind(k);
    }

    private int coinsOfRow(int k) {
        return k == NONE ? row.total : row.coinsOf(k);
    }

    /** Leaves in row the first one of the fewest coins that serves the column c, or, with c NONE, all buyers. */
    private boolean findRow(int c, int least, int most) {
        for (int total = least; total <= most; total++) {
            boolean more = row.start(plan.kinds, total);
            for (int i = 0; i < MOST_ROWS && more; i++) {
                if (c == NONE ? rowServesBuyers() : rowBuysAt(c)) {
                    return true;
                }
                more = row.next();
            }
        }
        return false;
    }

    private boolean rowBuysAt(int c) {
        int change = -now.price[c];
        for (int k = 0; k < plan.kinds; k++) {
            int coins = row.coins[k];
            if (coins > 0 && !plan.passes(now, c, k)) {
                return false;
            }
            change += coins * plan.value[k];
            trial.tube[k] = now.tube[k] + coins;
        }
        return change >= 0 && plan.payBack(trial.tube, change) == change;
    }

    private boolean rowServesBuyers() {
        trial.copyFrom(now);
        for (int k = 0; k < plan.kinds; k++) {
            trial.tube[k] = Math.min(MOST_HELD, trial.tube[k] + row.coins[k]);
        }
        for (int b = 0; b < buyers.count; b++) {
            int change = plan.changeOf(trial, buyers.column[b], buyers.kind[b], buyers.coins[b]);
            if (sellToBuyer(b) != change) {
                return false;
            }
        }
        return true;
    }

    private int sellToBuyer(int b) {
        return plan.sell(trial, buyers.column[b], buyers.kind[b], buyers.coins[b]);
    }

    public int shortOn() {
        if (buyers.count == 0) {
            return NONE;
        }
        trial.copyFrom(now);
        for (int day = 1; day <= MOST_DAYS; day++) {
            if (!allBuyersServed()) {
                return day;
            }
        }
        return NONE;
    }

    private boolean allBuyersServed() {
        return buyersServed((1 << MOST_BUYERS) - 1);
    }

    private boolean buyersServed(int set) {
        for (int b = 0; b < buyers.count; b++) {
            if ((set >> b & 1) == 1 && sellToBuyer(b) == NOT) {
                return false;
            }
        }
        return true;
    }

    public int night(int what) {
        if (what != 0 && what != 1) {
            return OUTSIDE;
        }
        if (!kept[0]) {
            return NOT;
        }
        int sets = 0;
        int sure = (1 << buyers.count) - 1;
        for (int set = 0; set < 1 << buyers.count; set++) {
            trial.copyFrom(images[0]);
            if (buyersServed(set) && trial.holdsLike(now)) {
                sets++;
                sure &= set;
            }
        }
        if (what == 0) {
            return sets;
        }
        return sets == 0 ? 0 : sure;
    }

    public int best(int what) {
        if (what < 0 || what > 2) {
            return OUTSIDE;
        }
        int rank = plan.kinds == 0 ? NONE : rankOfBestSpan();
        if (rank == NONE) {
            return NONE;
        }
        int a = MOST_TOLD - rank % 100;
        switch (what) {
            case 0: return a;
            case 1: return a + MOST_TOLD - rank / 100 % 100;
            default: return rank / 10000;
        }
    }

    /** The narrowest span by which some kinds pass begins and ends at weights of them, so no others are looked at. */
    private int rankOfBestSpan() {
        int best = NONE;
        for (int a = 1; a <= MOST_TOLD; a++) {
            best = Math.max(best, rankOfSpan(a, a));
        }
        for (int i = 0; i < plan.kinds; i++) {
            for (int j = 0; j < plan.kinds; j++) {
                best = Math.max(best, rankOfSpan(plan.weightNow(now, i), plan.weightNow(now, j)));
            }
        }
        return best;
    }

    /** How many kinds pass, how narrow it is and how small A is, two figures each: the greater the better. */
    private int rankOfSpan(int a, int b) {
        if (b < a || plan.slugsWithin(a, b) != 0) {
            return NONE;
        }
        int kinds = Integer.bitCount(plan.kindsWithin(now, a, b));
        return 10000 * kinds + 100 * (MOST_TOLD - (b - a)) + MOST_TOLD - a;
    }

    public int cheat(int c) {
        return plan.isColumn(c) ? now.cheatOf(c) : UNKNOWN;
    }

    public int cheats() {
        int best = NONE;
        int most = 0;
        for (int c = 0; c < plan.columns; c++) {
            if (now.cheatOf(c) > most) {
                most = now.cheatOf(c);
                best = c;
            }
        }
        return best;
    }

    public int attempt(int row, int n, boolean free) {
        if (n < 1 || n > MOST_TRY || row < 0 || row >= 1 << n) {
            return OUTSIDE;
        }
        return tries.add(row, n, free) ? tries.count : FULL;
    }

    public int fits(int m, int i) {
        if (m < 1 || m > MOST_RHYTHM) {
            return OUTSIDE;
        }
        int found = 0;
        for (int rhythm = 0; rhythm < 1 << m; rhythm++) {
            if (tries.allow(rhythm, m)) {
                if (found == i) {
                    return rhythm;
                }
                found++;
            }
        }
        return i == NONE ? found : NONE;
    }

    public int tear() {
        int both = buyers.count + tries.count;
        buyers.count = 0;
        tries.count = 0;
        return both;
    }

    public int seed(int v) {
        if (v < 0) {
            return OUTSIDE;
        }
        int old = now.seed;
        now.seed = v;
        return old;
    }

    public int keep(int i) {
        if (i < 0 || i >= IMAGES) {
            return UNKNOWN;
        }
        images[i].copyFrom(now);
        kept[i] = true;
        return 1;
    }

    public int goBack(int i) {
        if (i < 0 || i >= IMAGES) {
            return UNKNOWN;
        }
        if (!kept[i]) {
            return NOT;
        }
        now.copyFrom(images[i]);
        return 1;
    }

    /** The bytes that were fed and not read yet. */
    private static final class Text {
        private static final int END = -1;

        private final byte[] bytes = new byte[MOST_BYTES];
        private int length;

        void append(int b) {
            if (length < MOST_BYTES) {
                bytes[length] = (byte) b;
                length++;
            }
        }

        int byteAt(int i) {
            return i < 0 || i >= length || i >= MOST_BYTES ? END : bytes[i] & 255;
        }

        boolean isLetter(int i) {
            return byteAt(i) >= 'a' && byteAt(i) <= 'z';
        }

        boolean isFigure(int i) {
            return byteAt(i) >= '0' && byteAt(i) <= '9';
        }
    }

    /** Reads the text, token by token, into a plan and a state of its own, up to the first fault. */
    private static final class Reader {
        private static final int CANNOT_STAND = 1;
        private static final int NUMBER_IS_OFF = 2;
        private static final int TOO_MANY = 3;
        private static final int CLASHES = 4;

        private final Text text;
        private Plan plan = new Plan();
        private State start = new State();
        private int at;
        private int tokenAt;
        private int fault;
        private int faultAt = NONE;

        Reader(Text text) {
            this.text = text;
        }

        void read() {
            plan.clear();
            start.clear();
            at = 0;
            fault = 0;
            faultAt = NONE;
            skipBlanks();
            for (int clauses = 0; clauses < MOST_BYTES && at < text.length && fault == 0; clauses++) {
                readClause();
                skipBlanks();
            }
            plan.finish();
        }

        private void readClause() {
            takeWord();
            if (wordIs("coin")) {
                readCoin();
            } else if (wordIs("column")) {
                readColumn();
            } else if (wordIs("slug")) {
                readSlug();
            } else if (wordIs("kick")) {
                readKick();
            } else {
                fail(CANNOT_STAND, tokenAt);
            }
        }

        private void readCoin() {
            refuseSixth(plan.kinds, MOST_KINDS);
            int value = takeNumber(1, MOST_TOLD);
            int weight = takeNumber(10, MOST_TOLD);
            int coins = takeNumber(0, MOST_HELD);
            takeEnd();
            if (fault == 0 && plan.kinds < MOST_KINDS) {
                start.tube[plan.kinds] = coins;
                plan.addKind(value, weight);
            }
        }

        private void readColumn() {
            refuseSixth(plan.columns, MOST_COLUMNS);
            int price = takeNumber(1, MOST_TOLD);
            int low = takeNumber(1, MOST_TOLD);
            int high = takeNumber(1, MOST_TOLD);
            if (high < low) {
                fail(CLASHES, tokenAt);
            }
            int goods = takeNumber(0, MOST_HELD);
            takeEnd();
            if (fault == 0 && plan.columns < MOST_COLUMNS) {
                start.setColumn(plan.columns, price, low, high, goods);
                plan.columns++;
            }
        }

        private void readSlug() {
            refuseSixth(plan.slugs, MOST_SLUGS);
            int weight = takeNumber(1, MOST_TOLD);
            takeEnd();
            if (fault == 0) {
                plan.addSlug(weight);
            }
        }

        private void readKick() {
            int c = takeNumber(0, plan.columns - 1);
            if (plan.hasRhythm(c)) {
                fail(CLASHES, tokenAt);
            }
            int rhythm = takeRhythm();
            int length = at - tokenAt;
            takeEnd();
            if (fault == 0) {
                plan.setRhythm(c, rhythm, length);
            }
        }

        /** To be asked while the clause's word is the latest token. */
        private void refuseSixth(int count, int most) {
            if (count >= most) {
                fail(TOO_MANY, tokenAt);
            }
        }

        /** Of later faults none is told: those that come behind one may be due to it alone. */
        private void fail(int number, int where) {
            if (fault == 0) {
                fault = number;
                faultAt = where;
            }
        }

        private void skipBlanks() {
            while (at < text.length && text.byteAt(at) == ' ') {
                at++;
            }
        }

        /** What stands there may be no word at all: then it has no letters. */
        private void takeWord() {
            skipBlanks();
            tokenAt = at;
            while (at < text.length && text.isLetter(at)) {
                at++;
            }
        }

        private boolean wordIs(String word) {
            if (at - tokenAt != word.length()) {
                return false;
            }
            for (int i = 0; i < word.length(); i++) {
                if (text.byteAt(tokenAt + i) != word.charAt(i)) {
                    return false;
                }
            }
            return true;
        }

        /** Behind a fault nothing is read any more, so that the latest token stays the faulty one. */
        private int takeNumber(int least, int most) {
            if (fault != 0) {
                return 0;
            }
            skipBlanks();
            tokenAt = at;
            int number = 0;
            while (at < text.length && text.isFigure(at)) {
                number = Math.min(1000, 10 * number + text.byteAt(at) - '0');
                at++;
            }
            if (at == tokenAt) {
                fail(CANNOT_STAND, tokenAt);
            } else if (at - tokenAt > 3 || number < least || number > most) {
                fail(NUMBER_IS_OFF, tokenAt);
            }
            return number;
        }

        /** A bit a letter, the first one the highest. */
        private int takeRhythm() {
            if (fault != 0) {
                return 0;
            }
            takeWord();
            if (at == tokenAt) {
                fail(CANNOT_STAND, tokenAt);
            }
            if (at - tokenAt > MOST_RHYTHM) {
                fail(CLASHES, tokenAt);
            }
            int rhythm = 0;
            for (int i = tokenAt; i < at; i++) {
                if (text.byteAt(i) != 'l' && text.byteAt(i) != 'r') {
                    fail(CLASHES, tokenAt);
                }
                rhythm = rhythm << 1 | (text.byteAt(i) == 'r' ? 1 : 0);
            }
            return rhythm;
        }

        private void takeEnd() {
            if (fault != 0) {
                return;
            }
            skipBlanks();
            if (text.byteAt(at) != ';') {
                fail(CANNOT_STAND, at);
            }
            at++;
        }
    }

    /** What only a new text changes, and what follows from it for a state. */
    private static final class Plan {
        private final int[] value = new int[MOST_KINDS];
        private final int[] weight = new int[MOST_KINDS];
        private final int[] slugWeight = new int[MOST_SLUGS];
        private final int[] rhythm = new int[MOST_COLUMNS];
        /** 0: no rhythm was told. */
        private final int[] rhythmLength = new int[MOST_COLUMNS];
        /** The kinds as change is paid in them. */
        private final int[] paidBy = new int[MOST_KINDS];
        private int kinds;
        private int columns;
        private int slugs;

        void clear() {
            kinds = 0;
            columns = 0;
            slugs = 0;
            for (int c = 0; c < MOST_COLUMNS; c++) {
                rhythm[c] = 0;
                rhythmLength[c] = 0;
            }
        }

        /** A new kind goes behind those of its value that are there: of like ones the least pays first. */
        void addKind(int newValue, int newWeight) {
            if (kinds >= MOST_KINDS) {
                return;
            }
            value[kinds] = newValue;
            weight[kinds] = newWeight;
            int place = kinds;
            while (place > 0 && value[paidBy[place - 1]] < newValue) {
                paidBy[place] = paidBy[place - 1];
                place--;
            }
            paidBy[place] = kinds;
            kinds++;
        }

        void addSlug(int newWeight) {
            if (slugs < MOST_SLUGS) {
                slugWeight[slugs] = newWeight;
                slugs++;
            }
        }

        boolean hasRhythm(int c) {
            return isColumn(c) && rhythmLength[c] > 0;
        }

        void setRhythm(int c, int bits, int length) {
            if (isColumn(c)) {
                rhythm[c] = bits;
                rhythmLength[c] = length;
            }
        }

        /** The untold rhythms become one kick from the left. */
        void finish() {
            for (int c = 0; c < columns; c++) {
                if (rhythmLength[c] == 0) {
                    rhythmLength[c] = 1;
                }
            }
        }

        boolean isKind(int k) {
            return k >= 0 && k < kinds;
        }

        boolean isColumn(int c) {
            return c >= 0 && c < columns;
        }

        int weightNow(State s, int k) {
            return weight[k] - s.worn;
        }

        boolean passes(State s, int c, int k) {
            return weightNow(s, k) >= s.low[c] && weightNow(s, k) <= s.high[c];
        }

        int columnsPassedBy(State s, int k) {
            int set = 0;
            for (int c = 0; c < columns; c++) {
                if (passes(s, c, k)) {
                    set |= 1 << c;
                }
            }
            return set;
        }

        int kindsWithin(State s, int low, int high) {
            int set = 0;
            for (int k = 0; k < kinds; k++) {
                if (weightNow(s, k) >= low && weightNow(s, k) <= high) {
                    set |= 1 << k;
                }
            }
            return set;
        }

        /** Slugs are not worn. */
        int slugsWithin(int low, int high) {
            int set = 0;
            for (int i = 0; i < slugs; i++) {
                if (slugWeight[i] >= low && slugWeight[i] <= high) {
                    set |= 1 << i;
                }
            }
            return set;
        }

        int valueOfTubes(State s) {
            int sum = 0;
            for (int k = 0; k < kinds; k++) {
                sum += value[k] * s.tube[k];
            }
            return sum;
        }

        boolean isRhythm(int c, int kicks, int count) {
            int length = rhythmLength[c];
            return count >= length && (kicks & (1 << length) - 1) == rhythm[c];
        }

        int changeOf(State s, int c, int k, int n) {
            return n * value[k] - s.price[c];
        }

        /** A sale on s: the change that is told in coins, or NOT. */
        int sell(State s, int c, int k, int n) {
            int change = changeOf(s, c, k, n);
            int from = s.wired[c];
            if (s.isJammed(c) || !passes(s, c, k) || change < 0 || s.goods[from] == 0) {
                return NOT;
            }
            s.goods[from]--;
            s.takeIn(k, n);
            int paid = payBack(s.tube, change);
            s.stamps = Math.min(MOST_COUNTED, s.stamps + change - paid);
            s.sales = Math.min(MOST_COUNTED, s.sales + 1);
            s.stick[c] += s.damp * n;
            return paid;
        }

        /** Takes from the tubes as much of the change as they can give: how much that is. */
        int payBack(int[] tube, int change) {
            int left = change;
            for (int i = 0; i < kinds; i++) {
                int k = paidBy[i];
                if (value[k] > 0) {
                    int coins = Math.min(tube[k], left / value[k]);
                    tube[k] -= coins;
                    left -= coins * value[k];
                }
            }
            return change - left;
        }
    }

    /** What an image keeps. */
    private static final class State {
        private static final int KICKS_KEPT = (1 << MOST_RHYTHM) - 1;

        private final int[] tube = new int[MOST_KINDS];
        private final int[] goods = new int[MOST_COLUMNS];
        private final int[] stick = new int[MOST_COLUMNS];
        /** The last kicks since the column jammed, the latest in bit 0. */
        private final int[] kicks = new int[MOST_COLUMNS];
        private final int[] kickCount = new int[MOST_COLUMNS];
        private final int[] low = new int[MOST_COLUMNS];
        private final int[] high = new int[MOST_COLUMNS];
        private final int[] price = new int[MOST_COLUMNS];
        private final int[] wired = new int[MOST_COLUMNS];
        private int lost;
        private int stamps;
        private int sales;
        private int damp;
        private int worn;
        private int seed;

        void clear() {
            for (int k = 0; k < MOST_KINDS; k++) {
                tube[k] = 0;
            }
            for (int c = 0; c < MOST_COLUMNS; c++) {
                setColumn(c, 0, 0, 0, 0);
            }
            lost = 0;
            stamps = 0;
            sales = 0;
            damp = 0;
            worn = 0;
            seed = 0;
        }

        void setColumn(int c, int newPrice, int newLow, int newHigh, int newGoods) {
            if (c < 0 || c >= MOST_COLUMNS) {
                return;
            }
            price[c] = newPrice;
            low[c] = newLow;
            high[c] = newHigh;
            goods[c] = newGoods;
            wired[c] = c;
            setFree(c);
        }

        void copyFrom(State other) {
            for (int k = 0; k < MOST_KINDS; k++) {
                tube[k] = other.tube[k];
            }
            for (int c = 0; c < MOST_COLUMNS; c++) {
                goods[c] = other.goods[c];
                stick[c] = other.stick[c];
                kicks[c] = other.kicks[c];
                kickCount[c] = other.kickCount[c];
                low[c] = other.low[c];
                high[c] = other.high[c];
                price[c] = other.price[c];
                wired[c] = other.wired[c];
            }
            lost = other.lost;
            stamps = other.stamps;
            sales = other.sales;
            damp = other.damp;
            worn = other.worn;
            seed = other.seed;
        }

        /** Whether a night leads from one to the other, as far as one looks: tubes, goods, lost and stamps. */
        boolean holdsLike(State other) {
            for (int k = 0; k < MOST_KINDS; k++) {
                if (tube[k] != other.tube[k]) {
                    return false;
                }
            }
            for (int c = 0; c < MOST_COLUMNS; c++) {
                if (goods[c] != other.goods[c]) {
                    return false;
                }
            }
            return lost == other.lost && stamps == other.stamps;
        }

        boolean isJammed(int c) {
            return stick[c] >= JAMMED_AT;
        }

        void addKick(int c, int side) {
            kicks[c] = (kicks[c] << 1 | side) & KICKS_KEPT;
            kickCount[c] = Math.min(MOST_RHYTHM, kickCount[c] + 1);
        }

        void setFree(int c) {
            stick[c] = 0;
            kicks[c] = 0;
            kickCount[c] = 0;
        }

        void takeIn(int k, int n) {
            int above = Math.max(0, tube[k] + n - MOST_HELD);
            tube[k] += n - above;
            lost = Math.min(MOST_COUNTED, lost + above);
        }

        int cheatOf(int c) {
            return price[wired[c]] - price[c];
        }

        int draw(int n) {
            seed = (int) (seed * 1103515245L + 12345L & 2147483647L);
            return n > 0 ? seed / 65536 % n : 0;
        }
    }

    /** Sales that are told ahead, in their order. */
    private static final class Buyers {
        private final int[] column = new int[MOST_BUYERS];
        private final int[] kind = new int[MOST_BUYERS];
        private final int[] coins = new int[MOST_BUYERS];
        private int count;

        boolean add(int c, int k, int n) {
            if (count >= MOST_BUYERS) {
                return false;
            }
            column[count] = c;
            kind[count] = k;
            coins[count] = n;
            count++;
            return true;
        }
    }

    /** Rows of kicks, bit k for kick k, and whether something came free by the last one. */
    private static final class Tries {
        private final int[] row = new int[MOST_TRIES];
        private final int[] length = new int[MOST_TRIES];
        private final boolean[] free = new boolean[MOST_TRIES];
        private int count;

        boolean add(int newRow, int n, boolean cameFree) {
            if (count >= MOST_TRIES) {
                return false;
            }
            row[count] = newRow;
            length[count] = n;
            free[count] = cameFree;
            count++;
            return true;
        }

        boolean allow(int rhythm, int m) {
            for (int t = 0; t < count; t++) {
                int freeAfter = free[t] ? length[t] : NONE;
                if (kicksUntilFree(t, rhythm, m) != freeAfter) {
                    return false;
                }
            }
            return true;
        }

        private int kicksUntilFree(int t, int rhythm, int m) {
            for (int end = m; end <= length[t]; end++) {
                int last = row[t] >> (end - m) & (1 << m) - 1;
                if (last == rhythm) {
                    return end;
                }
            }
            return NONE;
        }
    }

    /** Coins, kind by kind; it goes through all rows of a total, those with more of the first kinds ahead. */
    private static final class Row {
        private final int[] coins = new int[MOST_KINDS];
        private int width;
        private int total;

        /** Whether there is such a row at all. */
        boolean start(int kinds, int sum) {
            width = Math.min(kinds, MOST_KINDS);
            total = sum;
            for (int k = 0; k < MOST_KINDS; k++) {
                coins[k] = 0;
            }
            if (width > 0) {
                coins[0] = sum;
            }
            return width > 0 || sum == 0;
        }

        /** One coin moves on from the last kind that can give one, and all that stood behind goes with it. */
        boolean next() {
            if (width < 2) {
                return false;
            }
            int behind = coins[width - 1];
            coins[width - 1] = 0;
            for (int k = width - 2; k >= 0; k--) {
                if (coins[k] > 0) {
                    coins[k]--;
                    coins[k + 1] = behind + 1;
                    return true;
                }
            }
            return false;
        }

        int coinsOf(int k) {
            return k < 0 || k >= MOST_KINDS ? 0 : coins[k];
        }
    }
}
