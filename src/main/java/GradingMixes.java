/**
 * Mixes of stones from stocks: bands of sieves, the best and the nearest mix, what a wider band
 * would save, wet batches, and tests with rules that fire. See README.md.
 */
public final class GradingMixes {
    public static final int BAD = -1;

    private static final int MAX_SIEVES = 6;
    private static final int MAX_STOCKS = 4;
    private static final int MAX_SIGNS = 60;
    private static final int MAX_DIGITS = 4;
    private static final int MAX_TESTS = 100;
    private static final int MAX_PRICE = 100000;
    private static final int MAX_OFF = 300;
    private static final int MAX_WATER = 300;
    private static final int MAX_KILOS = 1000000;
    private static final int MAX_LIMIT = 1000;
    private static final int HUNDRED = 100;
    private static final int THOUSAND = 1000;
    private static final int DRIFT_TESTS = 5;
    private static final int DRIFT = 10;

    private final Plant plant = new Plant();
    private final Search search = new Search(plant);
    private final Search widerSearch = new Search(plant);
    private final BandText text = new BandText();
    private final Mix hand = new Mix();
    private final Batch lastBatch = new Batch();
    private final TestLog log = new TestLog();
    private boolean searched = false;
    private int limit = 50;

    public GradingMixes() {
    }

    public int sieve(int low, int high) {
        if (!mayBeBand(low, high) || plant.sieves >= MAX_SIEVES) {
            return BAD;
        }
        int added = plant.sieves;
        plant.sieves++;
        plant.setBand(added, low, high);
        forget();
        return added;
    }

    public boolean band(int sieve, int low, int high) {
        if (!plant.hasSieve(sieve) || !mayBeBand(low, high)) {
            return false;
        }
        plant.setBand(sieve, low, high);
        forget();
        return true;
    }

    public int stock(int price, int least, int most, boolean old) {
        boolean sharesFit = 0 <= least && least <= most && most <= HUNDRED;
        if (!within(price, 0, MAX_PRICE) || !sharesFit || plant.stocks >= MAX_STOCKS) {
            return BAD;
        }
        int added = plant.stocks;
        plant.stocks++;
        plant.setStock(added, price, least, most, old);
        forget();
        return added;
    }

    public boolean passes(int stock, int sieve, int passing, int off) {
        if (!plant.hasStock(stock) || !plant.hasSieve(sieve)) {
            return false;
        }
        if (!within(passing, 0, THOUSAND) || !within(off, 0, MAX_OFF)) {
            return false;
        }
        plant.setPassing(stock, sieve, passing, off);
        forget();
        return true;
    }

    public int cap(int percent) {
        if (!within(percent, 0, HUNDRED)) {
            return BAD;
        }
        int before = plant.cap;
        plant.cap = percent;
        forget();
        return before;
    }

    public int step(int percent) {
        // The steps that the document lists are just the divisors of 100.
        if (percent < 1 || HUNDRED % percent != 0) {
            return BAD;
        }
        int before = plant.step;
        plant.step = percent;
        forget();
        return before;
    }

    public boolean unit(int u) {
        return text.collect(u);
    }

    public int read() {
        int bands = text.parse(plant.sieves);
        text.clear();
        if (bands < 0) {
            return bands;
        }
        for (int sieve = 0; sieve < bands && sieve < MAX_SIEVES; sieve++) {
            plant.setBand(sieve, text.lows[sieve], text.highs[sieve]);
        }
        forget();
        return bands;
    }

    public int run() {
        searchOnce();
        return takeInHand(search.best) ? hand.price : BAD;
    }

    public int near() {
        searchOnce();
        return takeInHand(search.nearest) ? hand.missed : BAD;
    }

    public int share(int stock) {
        if (!hand.there || !plant.hasStock(stock)) {
            return BAD;
        }
        return hand.shares[stock];
    }

    public int told(int sieve, int what) {
        if (!hand.there || !plant.hasSieve(sieve)) {
            return BAD;
        }
        switch (what) {
            case 0:
                return plant.sumAt(sieve, plant.middle, hand);
            case 1:
                return plant.sumAt(sieve, plant.lower, hand);
            case 2:
                return plant.sumAt(sieve, plant.upper, hand);
            case 3:
                return plant.missAt(sieve, hand);
            default:
                return BAD;
        }
    }

    public int cost() {
        return hand.there ? hand.price : BAD;
    }

    public int lonely(int k) {
        searchOnce();
        if (search.mixes == 0) {
            return BAD;
        }
        int before = 0;
        for (int sieve = 0; sieve < plant.sieves; sieve++) {
            if (!search.kept[sieve]) {
                if (before == k) {
                    return sieve;
                }
                before++;
            }
        }
        return BAD;
    }

    public int worth(int sieve, boolean upper, int by) {
        if (!plant.hasSieve(sieve) || !within(by, 0, THOUSAND)) {
            return BAD;
        }
        searchOnce();
        if (!search.best.there) {
            return BAD;
        }
        widerSearch.useBands();
        widerSearch.widen(sieve, upper, by);
        widerSearch.lookAtAll();
        return search.best.price - widerSearch.best.price;
    }

    public int water(int stock, int perMille) {
        if (!plant.hasStock(stock) || !within(perMille, 0, MAX_WATER)) {
            return BAD;
        }
        int before = plant.water[stock];
        plant.water[stock] = perMille;
        return before;
    }

    public int batch(int kilos) {
        if (!hand.there || !within(kilos, 0, MAX_KILOS)) {
            return BAD;
        }
        return lastBatch.fill(kilos, hand, plant);
    }

    public int mass(int stock, boolean wet) {
        if (!lastBatch.there || !plant.hasStock(stock)) {
            return BAD;
        }
        return wet ? lastBatch.wet[stock] : lastBatch.dry[stock];
    }

    public int limit(int perMille) {
        if (!within(perMille, 1, MAX_LIMIT)) {
            return BAD;
        }
        int before = limit;
        limit = perMille;
        return before;
    }

    public int test(int sieve, int value) {
        if (!plant.hasSieve(sieve) || !within(value, 0, THOUSAND) || log.total >= MAX_TESTS) {
            return BAD;
        }
        log.add(sieve, value);
        int rule = firstRule(sieve, value);
        if (rule != 0) {
            log.addFired(sieve, rule);
        }
        return rule;
    }

    public int fired(int k, int what) {
        if (k < 0 || k >= log.firedTotal) {
            return BAD;
        }
        switch (what) {
            case 0:
                return log.firedSieve[k];
            case 1:
                return log.firedNumber[k];
            case 2:
                return log.firedRule[k];
            default:
                return BAD;
        }
    }

    public int count(int what) {
        switch (what) {
            case 0:
                return plant.sieves;
            case 1:
                return plant.stocks;
            case 2:
                return log.total;
            case 3:
                return log.firedTotal;
            case 4:
                searchOnce();
                return search.mixes;
            case 5:
                searchOnce();
                return search.keeping;
            default:
                return BAD;
        }
    }

    private static boolean within(int value, int least, int most) {
        return least <= value && value <= most;
    }

    private static boolean mayBeBand(int low, int high) {
        return 0 <= low && low <= high && high <= THOUSAND;
    }

    /** What every change of sieves, stocks, cap and step takes with it. */
    private void forget() {
        hand.there = false;
        lastBatch.there = false;
        log.clear();
        searched = false;
    }

    /** All mixes are looked at once after a change; later questions use what was found then. */
    private void searchOnce() {
        if (!searched) {
            search.useBands();
            search.lookAtAll();
            searched = true;
        }
    }

    private boolean takeInHand(Mix found) {
        if (!found.there) {
            return false;
        }
        hand.set(found.shares, found.price, found.missed);
        // A batch is told only as long as the mix by which it was made has not come anew.
        lastBatch.there = false;
        return true;
    }

    private int firstRule(int sieve, int value) {
        if (!within(value, plant.low[sieve], plant.high[sieve])) {
            return 1;
        }
        if (hand.there && log.drifts(sieve, plant.sumAt(sieve, plant.middle, hand) / HUNDRED)) {
            return 2;
        }
        return log.jumps(sieve, limit) ? 3 : 0;
    }

    /** Sieves, stocks and what holds for all mixes. */
    private static final class Plant {
        int sieves = 0;
        int stocks = 0;
        int cap = HUNDRED;
        int step = 5;
        final int[] low = new int[MAX_SIEVES];
        final int[] high = new int[MAX_SIEVES];
        final int[] price = new int[MAX_STOCKS];
        final int[] least = new int[MAX_STOCKS];
        final int[] most = new int[MAX_STOCKS];
        final boolean[] old = new boolean[MAX_STOCKS];
        final int[] water = new int[MAX_STOCKS];
        /** By stock and sieve: what passes, and the same at its worst ends. */
        final int[][] middle = new int[MAX_STOCKS][MAX_SIEVES];
        final int[][] lower = new int[MAX_STOCKS][MAX_SIEVES];
        final int[][] upper = new int[MAX_STOCKS][MAX_SIEVES];

        boolean hasSieve(int i) {
            return 0 <= i && i < sieves;
        }

        boolean hasStock(int i) {
            return 0 <= i && i < stocks;
        }

        void setBand(int i, int newLow, int newHigh) {
            low[i] = newLow;
            high[i] = newHigh;
        }

        void setStock(int i, int newPrice, int newLeast, int newMost, boolean isOld) {
            price[i] = newPrice;
            least[i] = newLeast;
            most[i] = newMost;
            old[i] = isOld;
        }

        void setPassing(int i, int atSieve, int passing, int off) {
            middle[i][atSieve] = passing;
            lower[i][atSieve] = Math.max(0, passing - off);
            upper[i][atSieve] = Math.min(THOUSAND, passing + off);
        }

        int sumAt(int atSieve, int[][] part, Mix mix) {
            int sum = 0;
            for (int i = 0; i < stocks; i++) {
                sum += mix.shares[i] * part[i][atSieve];
            }
            return sum;
        }

        int missAt(int atSieve, Mix mix) {
            int below = HUNDRED * low[atSieve] - sumAt(atSieve, lower, mix);
            int above = sumAt(atSieve, upper, mix) - HUNDRED * high[atSieve];
            return Math.max(0, below) + Math.max(0, above);
        }
    }

    /** A mix, or the place for one. */
    private static final class Mix {
        boolean there = false;
        final int[] shares = new int[MAX_STOCKS];
        int price = 0;
        int missed = 0;

        void set(int[] newShares, int newPrice, int newMissed) {
            for (int i = 0; i < MAX_STOCKS; i++) {
                shares[i] = newShares[i];
            }
            price = newPrice;
            missed = newMissed;
            there = true;
        }
    }

    /** Looks at all mixes that there are, with the bands of the plant or with a wider one. */
    private static final class Search {
        private final Plant plant;
        private final int[] need = new int[MAX_SIEVES];
        private final int[] allow = new int[MAX_SIEVES];
        private final int[] shares = new int[MAX_STOCKS];
        /** Row i holds the ends of the stocks before stock i, so each stock adds only its own. */
        private final int[][] lowerBefore = new int[MAX_STOCKS][MAX_SIEVES];
        private final int[][] upperBefore = new int[MAX_STOCKS][MAX_SIEVES];
        final boolean[] kept = new boolean[MAX_SIEVES];
        final Mix best = new Mix();
        final Mix nearest = new Mix();
        int mixes = 0;
        int keeping = 0;

        Search(Plant searched) {
            plant = searched;
        }

        void useBands() {
            for (int s = 0; s < plant.sieves; s++) {
                need[s] = HUNDRED * plant.low[s];
                allow[s] = HUNDRED * plant.high[s];
            }
        }

        void widen(int s, boolean upper, int by) {
            if (upper) {
                allow[s] = HUNDRED * Math.min(THOUSAND, plant.high[s] + by);
            } else {
                need[s] = HUNDRED * Math.max(0, plant.low[s] - by);
            }
        }

        void lookAtAll() {
            mixes = 0;
            keeping = 0;
            best.there = false;
            nearest.there = false;
            for (int s = 0; s < MAX_SIEVES; s++) {
                kept[s] = false;
            }
            fillFrom(0, HUNDRED, plant.cap, 0);
        }

        /**
         * Shares of a stock come in rising order: of mixes that are alike, the first one that is
         * met is then the one that the document takes.
         */
        private void fillFrom(int i, int left, int oldLeft, int priceBefore) {
            if (i < 0 || i >= plant.stocks) {
                return;
            }
            int room = plant.old[i] ? Math.min(left, oldLeft) : left;
            int most = Math.min(room, plant.most[i]);
            if (i == plant.stocks - 1) {
                // What is left is a multiple of the step, as 100 and all shares before it are.
                if (within(left, plant.least[i], most)) {
                    shares[i] = left;
                    lookAt(priceBefore + left * plant.price[i], missOfAll(i, left));
                }
                return;
            }
            for (int n = 0; n <= HUNDRED; n++) {
                int share = n * plant.step;
                if (share > most) {
                    break;
                }
                if (share >= plant.least[i]) {
                    putShare(i, share);
                    int oldRest = plant.old[i] ? oldLeft - share : oldLeft;
                    fillFrom(i + 1, left - share, oldRest, priceBefore + share * plant.price[i]);
                }
            }
        }

        /** Only for a stock that is not the last one: it fills the row of the stock behind it. */
        private void putShare(int i, int share) {
            shares[i] = share;
            for (int s = 0; s < plant.sieves; s++) {
                lowerBefore[i + 1][s] = lowerBefore[i][s] + share * plant.lower[i][s];
                upperBefore[i + 1][s] = upperBefore[i][s] + share * plant.upper[i][s];
            }
        }

        private int missOfAll(int last, int share) {
            int[] lowerSums = lowerBefore[last];
            int[] upperSums = upperBefore[last];
            int[] lowerOwn = plant.lower[last];
            int[] upperOwn = plant.upper[last];
            int sum = 0;
            for (int s = 0; s < plant.sieves; s++) {
                int below = need[s] - lowerSums[s] - share * lowerOwn[s];
                int above = upperSums[s] + share * upperOwn[s] - allow[s];
                int miss = Math.max(0, below) + Math.max(0, above);
                if (miss == 0) {
                    kept[s] = true;
                }
                sum += miss;
            }
            return sum;
        }

        private void lookAt(int price, int missed) {
            mixes++;
            if (missed == 0) {
                keeping++;
                if (!best.there || price < best.price) {
                    best.set(shares, price, missed);
                }
            }
            if (!nearest.there || missed < nearest.missed
                    || missed == nearest.missed && price < nearest.price) {
                nearest.set(shares, price, missed);
            }
        }
    }

    /** Signs that are collected, and the bands that they spell. */
    private static final class BandText {
        final int[] lows = new int[MAX_SIEVES];
        final int[] highs = new int[MAX_SIEVES];
        private final int[] signs = new int[MAX_SIGNS];
        private int size = 0;
        private int at = 0;

        boolean collect(int sign) {
            if (!within(sign, ' ', '~') || size >= MAX_SIGNS) {
                return false;
            }
            signs[size] = sign;
            size++;
            return true;
        }

        void clear() {
            size = 0;
        }

        /** How many bands there are, or -1 less the place of the first sign that is wrong. */
        int parse(int sieves) {
            at = 0;
            for (int k = 0; k <= MAX_SIEVES; k++) {
                int wrong = parseBand(k, sieves);
                if (wrong >= 0) {
                    return -1 - wrong;
                }
                if (at >= size) {
                    return k + 1;
                }
                if (!skip(',')) {
                    break;
                }
            }
            return -1 - at;
        }

        /** The place that is wrong, or -1 if none is. */
        private int parseBand(int k, int sieves) {
            int first = at;
            // Without a sieve no sign can go on here: what is wrong behind this one comes later.
            if (k >= sieves || k >= MAX_SIEVES) {
                return first;
            }
            int low = parseNumber();
            if (low < 0 || !skip('-')) {
                return at;
            }
            int high = parseNumber();
            if (high < 0) {
                return at;
            }
            if (!mayBeBand(low, high)) {
                return first;
            }
            lows[k] = low;
            highs[k] = high;
            return -1;
        }

        /** A number of as many digits as it may have, or -1 if there is no digit. */
        private int parseNumber() {
            int value = -1;
            for (int n = 0; n < MAX_DIGITS && at < size && within(signs[at], '0', '9'); n++) {
                value = Math.max(0, value) * 10 + signs[at] - '0';
                at++;
            }
            return value;
        }

        private boolean skip(char sign) {
            if (at >= size || signs[at] != sign) {
                return false;
            }
            at++;
            return true;
        }
    }

    /** Kilos of each stock, as they were when the batch was made. */
    private static final class Batch {
        boolean there = false;
        final int[] dry = new int[MAX_STOCKS];
        final int[] wet = new int[MAX_STOCKS];

        /** How many kilos of water come with it. */
        int fill(int kilos, Mix mix, Plant plant) {
            int shares = 0;
            int before = 0;
            int waters = 0;
            for (int i = 0; i < plant.stocks; i++) {
                shares += mix.shares[i];
                int upTo = kilos * shares / HUNDRED;
                dry[i] = upTo - before;
                int water = dry[i] * plant.water[i] / THOUSAND;
                wet[i] = dry[i] + water;
                waters += water;
                before = upTo;
            }
            there = true;
            return waters;
        }
    }

    /** Tests by sieve, and those with which a rule fired, in the order in which they came. */
    private static final class TestLog {
        int total = 0;
        private final int[] sizes = new int[MAX_SIEVES];
        private final int[][] values = new int[MAX_SIEVES][MAX_TESTS];
        int firedTotal = 0;
        final int[] firedSieve = new int[MAX_TESTS];
        final int[] firedNumber = new int[MAX_TESTS];
        final int[] firedRule = new int[MAX_TESTS];

        void clear() {
            total = 0;
            firedTotal = 0;
            for (int s = 0; s < MAX_SIEVES; s++) {
                sizes[s] = 0;
            }
        }

        void add(int s, int value) {
            values[s][sizes[s]] = value;
            sizes[s]++;
            total++;
        }

        /** The last test of this sieve is the one with which the rule fired. */
        void addFired(int s, int rule) {
            firedSieve[firedTotal] = s;
            firedNumber[firedTotal] = sizes[s] - 1;
            firedRule[firedTotal] = rule;
            firedTotal++;
        }

        boolean drifts(int s, int middle) {
            int size = sizes[s];
            if (size < DRIFT_TESTS) {
                return false;
            }
            int above = 0;
            int below = 0;
            for (int n = size - DRIFT_TESTS; n < size; n++) {
                if (values[s][n] > middle + DRIFT) {
                    above++;
                }
                if (values[s][n] < middle - DRIFT) {
                    below++;
                }
            }
            return above == DRIFT_TESTS || below == DRIFT_TESTS;
        }

        boolean jumps(int s, int most) {
            int size = sizes[s];
            return size >= 2 && Math.abs(values[s][size - 1] - values[s][size - 2]) > most;
        }
    }
}
