/** Promises 20 to 23 and the terms behind them: both sides of each boundary that they name. */
public final class RuleEdgesTest {
    private static final int BAD = GradingMixes.BAD;
    private static final int MIN = Integer.MIN_VALUE;
    private static final int MAX = Integer.MAX_VALUE;
    private static final Check check = new Check();

    public static void main(String[] args) {
        limitFrom1To1000();
        limit50AtFirst();
        limitStays();
        testOfASieveThatIs();
        testFrom0To1000();
        testThereAre100();
        testRefusedIsNone();
        ruleOneOutsideOfTheBand();
        ruleTwoAbove();
        ruleTwoBelow();
        ruleTwoMiddleIsCutOff();
        ruleTwoAllFive();
        ruleTwoOneSideOnly();
        ruleTwoWithAMixAtHand();
        ruleTwoOfThatSieve();
        ruleTwoAtTheEnds();
        ruleThreeMoreThanTheLimit();
        ruleThreeOneBefore();
        firstRuleCounts();
        firedWhich();
        firedWhat();
        firedNumber();
        countWhat();
        countTests();
        countMixes();
        check.end();
    }

    private static void dueTests(GradingMixes x, int sieve, int value, int times, int rule) {
        for (int i = 0; i < times; i++) {
            check.due("test(" + sieve + ", " + value + "), time " + i, x.test(sieve, value), rule);
        }
    }

    /** A mix at hand whose middle at sieve 0 is as asked for; no test, and only rule 2 can fire. */
    private static GradingMixes withMiddle(int middle) {
        GradingMixes x = Samples.withOne(0, 1000, middle / 100 + 1, 0);
        x.stock(7, 0, 100, false);
        x.passes(1, 0, middle / 100, 0);
        // Of stock 0 come as many as are behind the hundreds: sieve 1 lets no other share be.
        x.step(1);
        x.sieve(10 * (middle % 100), 10 * (middle % 100));
        x.passes(0, 1, 1000, 0);
        x.limit(1000);
        x.run();
        check.due("middle of the setup", x.told(0, 0), middle);
        return x;
    }

    private static void limitFrom1To1000() {
        check.begin("promise 20: 1 .. 1000");
        GradingMixes x = new GradingMixes();
        x.limit(77);
        check.due("limit(0)", x.limit(0), BAD);
        check.due("limit(-1)", x.limit(-1), BAD);
        check.due("limit(1001)", x.limit(1001), BAD);
        check.due("limit(MIN)", x.limit(MIN), BAD);
        check.due("limit(MAX)", x.limit(MAX), BAD);
        check.due("limit(1): it was 77 all the while", x.limit(1), 77);
        check.due("limit(1000): it was 1", x.limit(1000), 1);
        check.due("limit(1000): it was 1000", x.limit(1000), 1000);
    }

    private static void limit50AtFirst() {
        check.begin("terms: the limit is 50 at first");
        GradingMixes x = Samples.withSieves(1, 0, 1000);
        x.test(0, 100);
        check.due("50 from the one before", x.test(0, 150), 0);
        check.due("51 from the one before", x.test(0, 201), 3);
        check.due("what it was", x.limit(1), 50);
    }

    private static void limitStays() {
        check.begin("promise 20: what it was, whatever else has changed");
        GradingMixes x = Samples.used();
        x.sieve(0, 1000);
        x.band(0, 0, 1000);
        x.stock(1, 0, 0, false);
        x.passes(0, 0, 5, 0);
        x.cap(50);
        x.step(2);
        x.read();
        x.run();
        x.test(0, 5);
        check.due("limit(1)", x.limit(1), 70);
        check.due("the tests are not gone by it", x.count(2), 1);
        check.due("nor the mix", x.cost() != BAD, true);
    }

    private static void testOfASieveThatIs() {
        check.begin("promise 21: BAD: none such, the sieve");
        for (int sieves = 0; sieves <= 6; sieves++) {
            GradingMixes x = Samples.withSieves(sieves, 0, 1000);
            check.due("sieve -1 of " + sieves, x.test(-1, 5), BAD);
            for (int i = 0; i < sieves; i++) {
                check.due("sieve " + i + " of " + sieves, x.test(i, 5), 0);
            }
            check.due("sieve " + sieves + ", one behind the last", x.test(sieves, 5), BAD);
            check.due("sieve MIN", x.test(MIN, 5), BAD);
            check.due("sieve MAX", x.test(MAX, 5), BAD);
            check.due("count(2)", x.count(2), sieves);
        }
    }

    private static void testFrom0To1000() {
        check.begin("promise 21: 0 .. 1000");
        GradingMixes x = Samples.withSieves(1, 0, 1000);
        x.limit(1000);
        check.due("-1", x.test(0, -1), BAD);
        check.due("1001", x.test(0, 1001), BAD);
        check.due("MIN", x.test(0, MIN), BAD);
        check.due("MAX", x.test(0, MAX), BAD);
        check.due("none came", x.count(2), 0);
        check.due("0", x.test(0, 0), 0);
        check.due("1000", x.test(0, 1000), 0);
        check.due("two came", x.count(2), 2);
    }

    private static void testThereAre100() {
        check.begin("promise 21: BAD: of all sieves there are 100");
        GradingMixes one = Samples.withSieves(1, 0, 1000);
        GradingMixes six = Samples.withSieves(6, 0, 1000);
        for (int i = 0; i < 100; i++) {
            check.due("test " + i + " of one sieve", one.test(0, 9), 0);
            check.due("test " + i + " of six sieves", six.test(i % 6, 9), 0);
            check.due("count(2)", six.count(2), i + 1);
        }
        check.due("one more of one sieve", one.test(0, 9), BAD);
        for (int i = 0; i < 6; i++) {
            check.due("one more of sieve " + i, six.test(i, 9), BAD);
        }
        check.due("count(2) of one", one.count(2), 100);
        check.due("count(2) of six", six.count(2), 100);
        six.cap(100);
        check.due("room again, for all are gone", six.test(5, 9), 0);
        check.due("count(2)", six.count(2), 1);
    }

    private static void testRefusedIsNone() {
        check.begin("promise 21: a test that is refused is none, and comes not between");
        GradingMixes x = Samples.withSieves(1, 100, 900);
        check.due("100", x.test(0, 100), 0);
        check.due("1001 is refused", x.test(0, 1001), BAD);
        check.due("-1 is refused", x.test(0, -1), BAD);
        check.due("150: 50 from 100", x.test(0, 150), 0);
        check.due("1001 is refused", x.test(0, 1001), BAD);
        check.due("99: it is the third", x.test(0, 99), 1);
        check.due("fired(0, 1)", x.fired(0, 1), 2);
        check.due("count(2)", x.count(2), 3);
        check.due("count(3)", x.count(3), 1);
    }

    private static void ruleOneOutsideOfTheBand() {
        check.begin("terms: rule 1, outside of the band");
        int[][] bands = {{0, 0}, {0, 1}, {1, 999}, {200, 800}, {500, 500}, {999, 1000}, {1000, 1000}};
        for (int[] band : bands) {
            GradingMixes x = Samples.withSieves(1, band[0], band[1]);
            x.limit(1000);
            for (int value : new int[] {0, band[0] - 1, band[0], band[1], band[1] + 1, 1000}) {
                if (value >= 0 && value <= 1000) {
                    boolean outside = value < band[0] || value > band[1];
                    check.due(value + " for " + band[0] + " to " + band[1], x.test(0, value), outside ? 1 : 0);
                }
            }
        }
    }

    private static void ruleTwoAbove() {
        check.begin("terms: rule 2, above 10 thousandths more than the middle");
        GradingMixes x = withMiddle(50000);
        dueTests(x, 0, 510, 6, 0);
        dueTests(x, 0, 511, 4, 0);
        dueTests(x, 0, 511, 3, 2);
        dueTests(x, 0, 510, 1, 0);
        dueTests(x, 0, 1000, 4, 0);
        dueTests(x, 0, 511, 1, 2);
    }

    private static void ruleTwoBelow() {
        check.begin("terms: rule 2, below as many less");
        GradingMixes x = withMiddle(50000);
        dueTests(x, 0, 490, 6, 0);
        dueTests(x, 0, 489, 4, 0);
        dueTests(x, 0, 489, 3, 2);
        dueTests(x, 0, 490, 1, 0);
        dueTests(x, 0, 0, 4, 0);
        dueTests(x, 0, 489, 1, 2);
    }

    private static void ruleTwoMiddleIsCutOff() {
        check.begin("terms: rule 2, the middle by 100, cut off");
        int[] middles = {50000, 50001, 50050, 50099};
        for (int middle : middles) {
            GradingMixes above = withMiddle(middle);
            dueTests(above, 0, 510, 6, 0);
            dueTests(above, 0, 511, 4, 0);
            dueTests(above, 0, 511, 1, 2);
            GradingMixes below = withMiddle(middle);
            dueTests(below, 0, 490, 6, 0);
            dueTests(below, 0, 489, 4, 0);
            dueTests(below, 0, 489, 1, 2);
        }
        GradingMixes next = withMiddle(50100);
        dueTests(next, 0, 511, 6, 0);
        dueTests(next, 0, 512, 4, 0);
        dueTests(next, 0, 512, 1, 2);
        dueTests(next, 0, 490, 4, 0);
        dueTests(next, 0, 490, 1, 2);
    }

    private static void ruleTwoAllFive() {
        check.begin("terms: rule 2, it and the four before it all");
        for (int odd = 0; odd < 5; odd++) {
            GradingMixes above = withMiddle(50000);
            GradingMixes below = withMiddle(50000);
            for (int i = 0; i < 5; i++) {
                check.due("above, all but " + odd, above.test(0, i == odd ? 510 : 511), 0);
                check.due("below, all but " + odd, below.test(0, i == odd ? 490 : 489), 0);
            }
            // The odd one is the oldest of five behind as many more as it has before it.
            for (int i = 0; i < odd; i++) {
                check.due("above, the odd one is among the five", above.test(0, 511), 0);
                check.due("below, the odd one is among the five", below.test(0, 489), 0);
            }
            check.due("above, the odd one is behind the five", above.test(0, 511), 2);
            check.due("below, the odd one is behind the five", below.test(0, 489), 2);
        }
    }

    private static void ruleTwoOneSideOnly() {
        check.begin("terms: rule 2, all above or all below");
        GradingMixes x = withMiddle(50000);
        for (int i = 0; i < 12; i++) {
            check.due("by turns, " + i, x.test(0, i % 2 == 0 ? 511 : 489), 0);
        }
        dueTests(x, 0, 511, 4, 0);
        dueTests(x, 0, 489, 4, 0);
        dueTests(x, 0, 489, 1, 2);
        dueTests(x, 0, 511, 4, 0);
        dueTests(x, 0, 511, 1, 2);
    }

    private static void ruleTwoWithAMixAtHand() {
        check.begin("terms: rule 2, with a mix at hand");
        GradingMixes x = Samples.withOne(0, 1000, 500, 0);
        dueTests(x, 0, 511, 8, 0);
        x.run();
        check.due("those before the mix came count", x.test(0, 511), 2);
        x.cap(100);
        dueTests(x, 0, 511, 8, 0);
        x.near();
        check.due("near() brings one too", x.test(0, 511), 2);
        GradingMixes missing = Samples.missing();
        check.due("its middle is 48200", missing.told(0, 0), 48200);
        missing.band(0, 490, 600);
        missing.near();
        dueTests(missing, 0, 493, 4, 0);
        check.due("one that misses is at hand all the same", missing.test(0, 493), 2);
    }

    private static void ruleTwoOfThatSieve() {
        check.begin("terms: rule 2, tests and middle of that sieve");
        GradingMixes x = new GradingMixes();
        x.sieve(0, 1000);
        x.sieve(0, 1000);
        x.limit(1000);
        x.stock(1, 0, 100, false);
        x.passes(0, 0, 500, 0);
        x.passes(0, 1, 300, 0);
        x.run();
        for (int i = 0; i < 4; i++) {
            check.due("sieve 0", x.test(0, 511), 0);
            check.due("sieve 1", x.test(1, 310), 0);
        }
        check.due("sieve 1: 310 is not above", x.test(1, 310), 0);
        check.due("sieve 0: fifth of its own", x.test(0, 511), 2);
        dueTests(x, 1, 311, 4, 0);
        dueTests(x, 1, 311, 1, 2);
    }

    private static void ruleTwoAtTheEnds() {
        check.begin("terms: rule 2, a middle near 0 or 1000");
        GradingMixes none = withMiddle(0);
        dueTests(none, 0, 0, 6, 0);
        dueTests(none, 0, 10, 6, 0);
        dueTests(none, 0, 11, 4, 0);
        dueTests(none, 0, 11, 1, 2);
        GradingMixes all = Samples.withOne(0, 1000, 1000, 0);
        all.limit(1000);
        all.run();
        dueTests(all, 0, 1000, 6, 0);
        dueTests(all, 0, 990, 6, 0);
        dueTests(all, 0, 989, 4, 0);
        dueTests(all, 0, 989, 1, 2);
        GradingMixes eleven = withMiddle(1100);
        dueTests(eleven, 0, 0, 4, 0);
        dueTests(eleven, 0, 0, 1, 2);
        GradingMixes ten = withMiddle(1099);
        dueTests(ten, 0, 0, 6, 0);
    }

    private static void ruleThreeMoreThanTheLimit() {
        check.begin("terms: rule 3, more than the limit from the one before it");
        for (int limit : new int[] {1, 2, 50, 499, 500}) {
            GradingMixes x = Samples.withSieves(1, 0, 1000);
            x.limit(limit);
            check.due("the first one", x.test(0, 499), 0);
            check.due(limit + " more", x.test(0, 499 + limit), 0);
            check.due(limit + " less", x.test(0, 499), 0);
            check.due(limit + " and 1 more", x.test(0, 500 + limit), 3);
            check.due(limit + " and 1 less", x.test(0, 499), 3);
            check.due("the same", x.test(0, 499), 0);
        }
        GradingMixes x = Samples.withSieves(1, 0, 1000);
        x.limit(999);
        x.test(0, 0);
        check.due("1000 more than 0", x.test(0, 1000), 3);
        check.due("1000 less", x.test(0, 0), 3);
        x.limit(1000);
        check.due("1000 is not more than 1000", x.test(0, 1000), 0);
    }

    private static void ruleThreeOneBefore() {
        check.begin("terms: rule 3, the one before it, of that sieve");
        GradingMixes x = Samples.withSieves(2, 0, 900);
        check.due("the first of sieve 0", x.test(0, 900), 0);
        check.due("the first of sieve 1", x.test(1, 100), 0);
        check.due("sieve 0 again", x.test(0, 890), 0);
        check.due("sieve 1 again", x.test(1, 151), 3);
        check.due("from the one that fired", x.test(1, 201), 0);
        check.due("outside, by rule 1", x.test(0, 950), 1);
        check.due("from the one outside: 51", x.test(0, 899), 3);
        x.band(0, 0, 900);
        check.due("none before it any more", x.test(0, 0), 0);
        check.due("nor of the other", x.test(1, 900), 0);
    }

    private static void firstRuleCounts() {
        check.begin("terms: the first one that fires counts");
        GradingMixes x = Samples.withOne(0, 600, 500, 0);
        x.run();
        dueTests(x, 0, 520, 4, 0);
        check.due("1, 2 and 3", x.test(0, 601), 1);
        check.due("2 and 3", x.test(0, 520), 2);
        check.due("2 alone", x.test(0, 520), 2);
        check.due("3 alone", x.test(0, 469), 3);
        check.due("1 and 3", x.test(0, 700), 1);
        check.due("1 alone", x.test(0, 700), 1);
        check.due("none", Samples.withSieves(1, 0, 1000).test(0, 700), 0);
        check.due("each fired once", x.count(3), 6);
        check.due("fired(0, 2)", x.fired(0, 2), 1);
        check.due("fired(1, 2)", x.fired(1, 2), 2);
        check.due("fired(3, 2)", x.fired(3, 2), 3);
    }

    private static void firedWhich() {
        check.begin("promise 22: BAD: none such, the test");
        GradingMixes x = Samples.withSieves(1, 0, 0);
        check.due("fired(0, 0) of none", x.fired(0, 0), BAD);
        x.test(0, 0);
        check.due("fired(0, 0), no rule fired", x.fired(0, 0), BAD);
        for (int n = 1; n <= 99; n++) {
            x.test(0, 1);
            check.due("fired(" + (n - 1) + ", 1) of " + n, x.fired(n - 1, 1), n);
            check.due("fired(" + n + ", 1) of " + n, x.fired(n, 1), BAD);
        }
        check.due("fired(-1, 0)", x.fired(-1, 0), BAD);
        check.due("fired(MIN, 0)", x.fired(MIN, 0), BAD);
        check.due("fired(MAX, 0)", x.fired(MAX, 0), BAD);
        check.due("fired(0, 1), the first stays it", x.fired(0, 1), 1);
        x.band(0, 0, 0);
        check.due("fired(0, 0) behind a change", x.fired(0, 0), BAD);
    }

    private static void firedWhat() {
        check.begin("promise 22: BAD: none such, what is told");
        GradingMixes x = Samples.withSieves(4, 0, 0);
        x.test(3, 0);
        x.test(3, 0);
        x.test(3, 5);
        check.due("fired(0, -1)", x.fired(0, -1), BAD);
        check.due("fired(0, 0)", x.fired(0, 0), 3);
        check.due("fired(0, 1)", x.fired(0, 1), 2);
        check.due("fired(0, 2)", x.fired(0, 2), 1);
        check.due("fired(0, 3)", x.fired(0, 3), BAD);
        check.due("fired(0, MIN)", x.fired(0, MIN), BAD);
        check.due("fired(0, MAX)", x.fired(0, MAX), BAD);
    }

    private static void firedNumber() {
        check.begin("promise 22: its number, of that sieve, from 0");
        GradingMixes x = Samples.withSieves(6, 0, 0);
        for (int round = 0; round < 16; round++) {
            for (int sieve = 0; sieve < 6; sieve++) {
                x.test(sieve, 1);
            }
        }
        for (int k = 0; k < 96; k++) {
            check.due("fired(" + k + ", 0)", x.fired(k, 0), k % 6);
            check.due("fired(" + k + ", 1)", x.fired(k, 1), k / 6);
        }
        x.cap(100);
        x.test(4, 1);
        check.due("from 0 again behind a change", x.fired(0, 1), 0);
        check.due("its sieve", x.fired(0, 0), 4);
    }

    private static void countWhat() {
        check.begin("promise 23: BAD: another number");
        GradingMixes x = Samples.used();
        int[] want = {3, 3, 4, 2, 3, 3};
        check.due("count(-1)", x.count(-1), BAD);
        for (int what = 0; what <= 5; what++) {
            check.due("count(" + what + ")", x.count(what), want[what]);
        }
        check.due("count(6)", x.count(6), BAD);
        check.due("count(MIN)", x.count(MIN), BAD);
        check.due("count(MAX)", x.count(MAX), BAD);
    }

    private static void countTests() {
        check.begin("promise 23: tests, and those with which a rule fired");
        GradingMixes x = Samples.withSieves(2, 0, 500);
        check.due("no test", x.count(2), 0);
        x.test(0, 500);
        check.due("one", x.count(2), 1);
        check.due("none fired", x.count(3), 0);
        x.test(1, 501);
        check.due("two", x.count(2), 2);
        check.due("one fired", x.count(3), 1);
        x.test(1, 1001);
        check.due("a refused one is none", x.count(2), 2);
        x.sieve(3, 2);
        check.due("a refused change leaves them", x.count(2), 2);
        x.sieve(2, 3);
        check.due("one that is not refused takes them", x.count(2), 0);
        check.due("and those that fired", x.count(3), 0);
    }

    private static void countMixes() {
        check.begin("promise 23: mixes that there are, whatever they miss, and those that keep all");
        GradingMixes x = new GradingMixes();
        x.sieve(0, 500);
        check.due("no mix without stocks", x.count(4), 0);
        check.due("none that keeps all", x.count(5), 0);
        x.stock(1, 0, 100, false);
        x.stock(1, 0, 100, false);
        x.passes(0, 0, 1000, 0);
        check.due("from 0 to 100 of stock 0", x.count(4), 21);
        check.due("from 0 to 50 of stock 0", x.count(5), 11);
        x.band(0, 0, 499);
        check.due("50 of stock 0 do not keep it", x.count(5), 10);
        x.band(0, 0, 0);
        check.due("none of stock 0", x.count(5), 1);
        x.passes(1, 0, 1, 0);
        check.due("no mix keeps it", x.count(5), 0);
        check.due("all mixes are there", x.count(4), 21);
        check.due("counting brings no mix", x.cost(), BAD);
    }
}
