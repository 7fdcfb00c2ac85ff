import java.util.ArrayList;
import java.util.Comparator;
import java.util.List;
import java.util.Random;

/** Long runs of calls, drawn from fixed seeds, against a slow model that follows the document word by word. */
public final class ModelTest {
    private static final int RUNS = 600;
    private static final int CALLS = 220;
    private static final int[] STEPS = {10, 20, 25, 50, 100, 5, 4, 2};
    private static final Check check = new Check();

    private final GradingMixes real = new GradingMixes();
    private final SlowModel model = new SlowModel();
    private final Random random;

    private ModelTest(long seed) {
        random = new Random(seed);
    }

    public static void main(String[] args) {
        for (int run = 0; run < RUNS && check.allAsDue(); run++) {
            check.begin("run " + run);
            new ModelTest(run).go();
        }
        check.end();
    }

    private void go() {
        setUp();
        for (int call = 0; call < CALLS && check.allAsDue(); call++) {
            callOne();
        }
    }

    private void setUp() {
        step(STEPS[random.nextInt(6)]);
        int sieves = random.nextInt(4);
        for (int i = 0; i < sieves; i++) {
            sieve();
        }
        int stocks = random.nextInt(5);
        for (int i = 0; i < stocks; i++) {
            stock();
            for (int s = 0; s < sieves; s++) {
                passes(i, s);
            }
        }
    }

    private void callOne() {
        int draw = random.nextInt(200);
        if (draw < 14) {
            change(draw);
        } else if (draw < 40) {
            text();
        } else if (draw < 70) {
            search(draw % 3);
        } else if (draw < 110) {
            ask();
        } else if (draw < 140) {
            weigh();
        } else {
            testing();
        }
    }

    private void change(int draw) {
        switch (draw) {
            case 0 -> sieve();
            case 1 -> stock();
            case 2, 3, 4 -> band();
            case 5, 6, 7 -> passes(around(3), around(5));
            case 8, 9 -> cap();
            case 10 -> step(STEPS[random.nextInt(STEPS.length)]);
            default -> step(around(101));
        }
    }

    /** Mostly 0 .. most, now and then one of the first numbers outside. */
    private int around(int most) {
        int draw = random.nextInt(40);
        if (draw == 0) {
            return -1;
        }
        if (draw == 1) {
            return most + 1;
        }
        if (draw == 2) {
            return random.nextInt();
        }
        return draw == 3 ? most : random.nextInt(most + 1);
    }

    private int lowEnd() {
        return random.nextInt(3) == 0 ? around(1000) : random.nextInt(400);
    }

    private int highEnd() {
        return random.nextInt(3) == 0 ? around(1000) : 600 + random.nextInt(401);
    }

    private void sieve() {
        int low = lowEnd();
        int high = highEnd();
        check.due("sieve(" + low + ", " + high + ")", real.sieve(low, high), model.sieve(low, high));
    }

    private void band() {
        int sieve = around(5);
        int low = lowEnd();
        int high = highEnd();
        check.due("band(" + sieve + ", " + low + ", " + high + ")",
                real.band(sieve, low, high), model.band(sieve, low, high));
    }

    private void stock() {
        int price = random.nextInt(3) == 0 ? around(100000) : random.nextInt(4);
        int least = random.nextInt(3) == 0 ? around(30) : 0;
        int most = random.nextInt(3) == 0 ? around(100) : 100;
        boolean old = random.nextBoolean();
        check.due("stock(" + price + ", " + least + ", " + most + ", " + old + ")",
                real.stock(price, least, most, old), model.stock(price, least, most, old));
    }

    private void passes(int stock, int sieve) {
        int passing = around(1000);
        int off = random.nextInt(2) == 0 ? around(300) : random.nextInt(30);
        check.due("passes(" + stock + ", " + sieve + ", " + passing + ", " + off + ")",
                real.passes(stock, sieve, passing, off), model.passes(stock, sieve, passing, off));
    }

    private void cap() {
        int percent = around(100);
        check.due("cap(" + percent + ")", real.cap(percent), model.cap(percent));
    }

    private void step(int percent) {
        // The finest step is left to PromisesTest: the model would take too long for it.
        int coarse = percent == 1 ? 2 : percent;
        check.due("step(" + coarse + ")", real.step(coarse), model.step(coarse));
    }

    private void text() {
        StringBuilder signs = new StringBuilder();
        int bands = 1 + random.nextInt(random.nextInt(4) == 0 ? 7 : 3);
        for (int i = 0; i < bands; i++) {
            signs.append(i == 0 ? "" : ",").append(numeral(400)).append('-').append(numeral(1003));
        }
        if (random.nextInt(3) != 0) {
            spoil(signs);
        }
        for (int i = 0; i < signs.length(); i++) {
            int sign = signs.charAt(i);
            check.due("unit(" + sign + ")", real.unit(sign), model.unit(sign));
        }
        if (random.nextInt(8) != 0) {
            check.due("read() of " + signs, real.read(), model.read());
        }
    }

    private String numeral(int bound) {
        String digits = Integer.toString(random.nextInt(bound));
        int zeros = random.nextInt(12) == 0 ? 1 + random.nextInt(4) : 0;
        return "0".repeat(zeros) + digits;
    }

    private void spoil(StringBuilder signs) {
        String odd = "0123456789--,, ./:+~\u007f\u001f";
        int at = random.nextInt(signs.length());
        switch (random.nextInt(4)) {
            case 0 -> signs.setLength(at);
            case 1 -> signs.deleteCharAt(at);
            case 2 -> signs.setCharAt(at, odd.charAt(random.nextInt(odd.length())));
            default -> signs.insert(at, odd.charAt(random.nextInt(odd.length())));
        }
    }

    private void search(int kind) {
        if (kind == 0) {
            check.due("run()", real.run(), model.run());
        } else if (kind == 1) {
            check.due("near()", real.near(), model.near());
        } else {
            int sieve = around(3);
            boolean upper = random.nextBoolean();
            int by = around(1000);
            check.due("worth(" + sieve + ", " + upper + ", " + by + ")",
                    real.worth(sieve, upper, by), model.worth(sieve, upper, by));
        }
    }

    private void ask() {
        int stock = around(3);
        check.due("share(" + stock + ")", real.share(stock), model.share(stock));
        int sieve = around(3);
        int what = around(3);
        check.due("told(" + sieve + ", " + what + ")", real.told(sieve, what), model.told(sieve, what));
        check.due("cost()", real.cost(), model.cost());
        int k = around(2);
        check.due("lonely(" + k + ")", real.lonely(k), model.lonely(k));
        int counted = around(5);
        check.due("count(" + counted + ")", real.count(counted), model.count(counted));
    }

    private void weigh() {
        if (random.nextInt(3) == 0) {
            int stock = around(3);
            int perMille = around(300);
            check.due("water(" + stock + ", " + perMille + ")",
                    real.water(stock, perMille), model.water(stock, perMille));
        }
        if (random.nextInt(2) == 0) {
            int kilos = random.nextInt(2) == 0 ? around(1000000) : random.nextInt(300);
            check.due("batch(" + kilos + ")", real.batch(kilos), model.batch(kilos));
        }
        int stock = around(3);
        boolean wet = random.nextBoolean();
        check.due("mass(" + stock + ", " + wet + ")", real.mass(stock, wet), model.mass(stock, wet));
    }

    private void testing() {
        if (random.nextInt(10) == 0) {
            int perMille = around(1000);
            check.due("limit(" + perMille + ")", real.limit(perMille), model.limit(perMille));
        }
        int sieve = random.nextInt(6) == 0 ? around(5) : 0;
        int value = testValue(sieve);
        check.due("test(" + sieve + ", " + value + ")", real.test(sieve, value), model.test(sieve, value));
        int k = around(20);
        int what = around(2);
        check.due("fired(" + k + ", " + what + ")", real.fired(k, what), model.fired(k, what));
    }

    /** Often just at the edge of rule 2, where no draw over all values would come by chance. */
    private int testValue(int sieve) {
        int middle = model.told(sieve, 0);
        if (middle >= 0 && random.nextInt(8) != 0) {
            int edge = random.nextInt(12) == 0 ? 10 : 11;
            return middle / 100 + (model.above ? edge : -edge);
        }
        model.above = random.nextBoolean();
        return around(1000);
    }

    /** Lists all mixes anew for every question, and sorts them by the document's words. */
    private static final class SlowModel {
        boolean above = false;
        private final List<int[]> bands = new ArrayList<>();
        private final List<int[]> stocks = new ArrayList<>();
        private final int[][] passing = new int[4][6];
        private final int[][] off = new int[4][6];
        private final int[] water = new int[4];
        private final List<int[]> tests = new ArrayList<>();
        private final List<int[]> fired = new ArrayList<>();
        private final StringBuilder signs = new StringBuilder();
        private int cap = 100;
        private int step = 5;
        private int limit = 50;
        private int[] hand = null;
        private int[][] batch = null;

        private static boolean bandMayBe(int low, int high) {
            return low >= 0 && low <= 1000 && high >= 0 && high <= 1000 && low <= high;
        }

        private boolean noSieve(int sieve) {
            return sieve < 0 || sieve >= bands.size();
        }

        private boolean noStock(int stock) {
            return stock < 0 || stock >= stocks.size();
        }

        private void changed() {
            hand = null;
            batch = null;
            tests.clear();
            fired.clear();
        }

        int sieve(int low, int high) {
            if (!bandMayBe(low, high) || bands.size() == 6) {
                return -1;
            }
            changed();
            bands.add(new int[] {low, high});
            return bands.size() - 1;
        }

        boolean band(int sieve, int low, int high) {
            if (noSieve(sieve) || !bandMayBe(low, high)) {
                return false;
            }
            changed();
            bands.set(sieve, new int[] {low, high});
            return true;
        }

        int stock(int price, int least, int most, boolean old) {
            if (price < 0 || price > 100000 || least < 0 || most > 100 || least > most || stocks.size() == 4) {
                return -1;
            }
            changed();
            stocks.add(new int[] {price, least, most, old ? 1 : 0});
            return stocks.size() - 1;
        }

        boolean passes(int stock, int sieve, int newPassing, int newOff) {
            if (noStock(stock) || noSieve(sieve)) {
                return false;
            }
            if (newPassing < 0 || newPassing > 1000 || newOff < 0 || newOff > 300) {
                return false;
            }
            changed();
            passing[stock][sieve] = newPassing;
            off[stock][sieve] = newOff;
            return true;
        }

        int cap(int percent) {
            if (percent < 0 || percent > 100) {
                return -1;
            }
            int was = cap;
            cap = percent;
            changed();
            return was;
        }

        int step(int percent) {
            if (!List.of(1, 2, 4, 5, 10, 20, 25, 50, 100).contains(percent)) {
                return -1;
            }
            int was = step;
            step = percent;
            changed();
            return was;
        }

        boolean unit(int u) {
            if (u < 32 || u > 126 || signs.length() == 60) {
                return false;
            }
            signs.append((char) u);
            return true;
        }

        int read() {
            String text = signs.toString();
            signs.setLength(0);
            List<int[]> found = new ArrayList<>();
            int wrong = firstWrong(text, found);
            if (wrong >= 0) {
                return -1 - wrong;
            }
            changed();
            for (int i = 0; i < found.size(); i++) {
                bands.set(i, found.get(i));
            }
            return found.size();
        }

        private int firstWrong(String text, List<int[]> found) {
            int at = 0;
            while (true) {
                if (found.size() == bands.size()) {
                    return at;
                }
                int dash = behindDigits(text, at);
                if (dash == at || dash == text.length() || text.charAt(dash) != '-') {
                    return dash;
                }
                int end = behindDigits(text, dash + 1);
                if (end == dash + 1) {
                    return end;
                }
                int low = Integer.parseInt(text.substring(at, dash));
                int high = Integer.parseInt(text.substring(dash + 1, end));
                if (!bandMayBe(low, high)) {
                    return at;
                }
                found.add(new int[] {low, high});
                if (end == text.length()) {
                    return -1;
                }
                if (text.charAt(end) != ',') {
                    return end;
                }
                at = end + 1;
            }
        }

        private static int behindDigits(String text, int from) {
            int at = from;
            while (at < text.length() && at < from + 4 && "0123456789".indexOf(text.charAt(at)) >= 0) {
                at++;
            }
            return at;
        }

        private List<int[]> allMixes() {
            List<int[]> all = new ArrayList<>();
            if (!stocks.isEmpty()) {
                addMixes(new int[stocks.size()], 0, 100, all);
            }
            return all;
        }

        private void addMixes(int[] shares, int stock, int left, List<int[]> all) {
            if (stock == shares.length) {
                if (left == 0 && mayBeMix(shares)) {
                    all.add(shares.clone());
                }
                return;
            }
            // Greatest share first: the model's order must come from its sorting alone.
            for (int share = left; share >= 0; share--) {
                if (share % step == 0) {
                    shares[stock] = share;
                    addMixes(shares, stock + 1, left - share, all);
                }
            }
        }

        private boolean mayBeMix(int[] shares) {
            int old = 0;
            for (int i = 0; i < shares.length; i++) {
                int[] stock = stocks.get(i);
                if (shares[i] < stock[1] || shares[i] > stock[2]) {
                    return false;
                }
                old += stock[3] * shares[i];
            }
            return old <= cap;
        }

        private int costOf(int[] mix) {
            int sum = 0;
            for (int i = 0; i < mix.length; i++) {
                sum += mix[i] * stocks.get(i)[0];
            }
            return sum;
        }

        /** Sign -1 is the lower end, 0 the middle, 1 the upper end. */
        private int sumOf(int[] mix, int sieve, int sign) {
            int sum = 0;
            for (int i = 0; i < mix.length; i++) {
                int part = passing[i][sieve] + sign * off[i][sieve];
                sum += mix[i] * (part < 0 ? 0 : part > 1000 ? 1000 : part);
            }
            return sum;
        }

        private int missOf(int[] mix, int sieve) {
            int under = 100 * bands.get(sieve)[0] - sumOf(mix, sieve, -1);
            int over = sumOf(mix, sieve, 1) - 100 * bands.get(sieve)[1];
            return (under > 0 ? under : 0) + (over > 0 ? over : 0);
        }

        private int missOf(int[] mix) {
            int sum = 0;
            for (int sieve = 0; sieve < bands.size(); sieve++) {
                sum += missOf(mix, sieve);
            }
            return sum;
        }

        private int[] nearest() {
            Comparator<int[]> order = Comparator.comparingInt((int[] mix) -> missOf(mix)).thenComparingInt(this::costOf);
            for (int i = 0; i < stocks.size(); i++) {
                int stock = i;
                order = order.thenComparingInt(mix -> mix[stock]);
            }
            return allMixes().stream().min(order).orElse(null);
        }

        /** The best mix is the nearest one, if that misses nothing. */
        private int[] best() {
            int[] mix = nearest();
            return mix != null && missOf(mix) == 0 ? mix : null;
        }

        private void atHand(int[] mix) {
            hand = mix;
            batch = null;
        }

        int run() {
            int[] mix = best();
            if (mix == null) {
                return -1;
            }
            atHand(mix);
            return costOf(mix);
        }

        int near() {
            int[] mix = nearest();
            if (mix == null) {
                return -1;
            }
            atHand(mix);
            return missOf(mix);
        }

        int share(int stock) {
            return hand == null || noStock(stock) ? -1 : hand[stock];
        }

        int told(int sieve, int what) {
            if (hand == null || noSieve(sieve) || what < 0 || what > 3) {
                return -1;
            }
            int[] all = {sumOf(hand, sieve, 0), sumOf(hand, sieve, -1), sumOf(hand, sieve, 1), missOf(hand, sieve)};
            return all[what];
        }

        int cost() {
            return hand == null ? -1 : costOf(hand);
        }

        int lonely(int k) {
            List<int[]> all = allMixes();
            List<Integer> found = new ArrayList<>();
            for (int i = 0; i < bands.size() && !all.isEmpty(); i++) {
                int sieve = i;
                if (all.stream().allMatch(mix -> missOf(mix, sieve) > 0)) {
                    found.add(sieve);
                }
            }
            return k < 0 || k >= found.size() ? -1 : found.get(k);
        }

        int worth(int sieve, boolean upper, int by) {
            int[] now = best();
            if (noSieve(sieve) || by < 0 || by > 1000 || now == null) {
                return -1;
            }
            int[] kept = bands.get(sieve);
            int low = upper ? kept[0] : Math.max(0, kept[0] - by);
            int high = upper ? Math.min(1000, kept[1] + by) : kept[1];
            bands.set(sieve, new int[] {low, high});
            int[] then = best();
            bands.set(sieve, kept);
            return costOf(now) - costOf(then);
        }

        int water(int stock, int perMille) {
            if (noStock(stock) || perMille < 0 || perMille > 300) {
                return -1;
            }
            int was = water[stock];
            water[stock] = perMille;
            return was;
        }

        int batch(int kilos) {
            if (hand == null || kilos < 0 || kilos > 1000000) {
                return -1;
            }
            batch = new int[hand.length][2];
            int all = 0;
            for (int i = 0; i < hand.length; i++) {
                int dry = (int) (upTo(kilos, i) - upTo(kilos, i - 1));
                int wet = dry + (int) ((long) dry * water[i] / 1000);
                batch[i] = new int[] {dry, wet};
                all += wet - dry;
            }
            return all;
        }

        private long upTo(int kilos, int stock) {
            long shares = 0;
            for (int i = 0; i <= stock; i++) {
                shares += hand[i];
            }
            return kilos * shares / 100;
        }

        int mass(int stock, boolean wet) {
            return batch == null || noStock(stock) ? -1 : batch[stock][wet ? 1 : 0];
        }

        int limit(int perMille) {
            if (perMille < 1 || perMille > 1000) {
                return -1;
            }
            int was = limit;
            limit = perMille;
            return was;
        }

        int test(int sieve, int value) {
            if (noSieve(sieve) || value < 0 || value > 1000 || tests.size() == 100) {
                return -1;
            }
            List<Integer> before = new ArrayList<>();
            for (int[] test : tests) {
                if (test[0] == sieve) {
                    before.add(0, test[1]);
                }
            }
            int rule = rule(sieve, value, before);
            if (rule > 0) {
                fired.add(new int[] {sieve, before.size(), rule});
            }
            tests.add(new int[] {sieve, value});
            return rule;
        }

        /** The tests before it come with the newest one first. */
        private int rule(int sieve, int value, List<Integer> before) {
            if (value < bands.get(sieve)[0] || value > bands.get(sieve)[1]) {
                return 1;
            }
            if (hand != null && before.size() >= 4) {
                int middle = sumOf(hand, sieve, 0) / 100;
                List<Integer> five = new ArrayList<>(before.subList(0, 4));
                five.add(value);
                boolean allAbove = five.stream().allMatch(v -> v > middle + 10);
                if (allAbove || five.stream().allMatch(v -> v < middle - 10)) {
                    return 2;
                }
            }
            return !before.isEmpty() && Math.abs(value - before.get(0)) > limit ? 3 : 0;
        }

        int fired(int k, int what) {
            return k < 0 || k >= fired.size() || what < 0 || what > 2 ? -1 : fired.get(k)[what];
        }

        int count(int what) {
            return switch (what) {
                case 0 -> bands.size();
                case 1 -> stocks.size();
                case 2 -> tests.size();
                case 3 -> fired.size();
                case 4 -> allMixes().size();
                case 5 -> (int) allMixes().stream().filter(mix -> missOf(mix) == 0).count();
                default -> -1;
            };
        }
    }
}
