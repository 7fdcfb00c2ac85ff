/** Promises 10 to 16 and the terms behind them: both sides of each boundary that they name. */
public final class MixEdgesTest {
    private static final int BAD = GradingMixes.BAD;
    private static final int MIN = Integer.MIN_VALUE;
    private static final int MAX = Integer.MAX_VALUE;
    private static final Check check = new Check();

    public static void main(String[] args) {
        missesBelow();
        missesAbove();
        missesBothTogether();
        keepsAllIfItMissesNone();
        keepsAtTheWorstEnds();
        bestCostsLeast();
        nearestMissesLeast();
        nearestOfAllSievesTogether();
        nearestOfTheseCostsLeast();
        alikeOfBest();
        alikeOfNearest();
        runNone();
        runWhatWasAtHandStays();
        nearNoMixAtAll();
        nearIsAtHand();
        shareOfAStockThatIs();
        shareWithoutMix();
        toldAtASieveThatIs();
        toldWhat();
        toldWithoutMix();
        costNone();
        lonelyWhich();
        lonelyByOne();
        lonelyWhateverItDoesWithOthers();
        lonelyNoMixAtAll();
        worthOfASieveThatIs();
        worthBy();
        worthJustEnough();
        worthNotBeyond0();
        worthNotBeyond1000();
        worthNoBestMix();
        worthWhatIsAtHandStays();
        check.end();
    }

    private static void dueShares(GradingMixes x, int... shares) {
        for (int i = 0; i < shares.length; i++) {
            check.due("share(" + i + ")", x.share(i), shares[i]);
        }
    }

    /** 99 of a stock at which 300 pass, and 1 of another one: its ends can be one off a band's. */
    private static GradingMixes oneOff(int low, int high, int passingOfOne) {
        GradingMixes x = Samples.withOne(low, high, 300, 0);
        x.stock(7, 1, 1, false);
        x.passes(1, 0, passingOfOne, 0);
        x.step(1);
        return x;
    }

    private static void dueMiss(GradingMixes x, int miss) {
        check.due("near()", x.near(), miss);
        check.due("told(0, 3)", x.told(0, 3), miss);
        check.due("run()", x.run(), miss == 0 ? 700 : BAD);
        check.due("count(5)", x.count(5), miss == 0 ? 1 : 0);
    }

    private static void missesBelow() {
        check.begin("terms: misses by 100 low less the lower end, if that is above 0");
        dueMiss(oneOff(300, 1000, 301), 0);
        dueMiss(oneOff(300, 1000, 300), 0);
        dueMiss(oneOff(300, 1000, 299), 1);
        dueMiss(oneOff(300, 1000, 298), 2);
        dueMiss(Samples.withOne(1000, 1000, 0, 0), 100000);
    }

    private static void missesAbove() {
        check.begin("terms: misses by the upper end less 100 high, if that is above 0");
        dueMiss(oneOff(0, 300, 299), 0);
        dueMiss(oneOff(0, 300, 300), 0);
        dueMiss(oneOff(0, 300, 301), 1);
        dueMiss(oneOff(0, 300, 302), 2);
        dueMiss(Samples.withOne(0, 0, 1000, 0), 100000);
    }

    private static void missesBothTogether() {
        check.begin("terms: both together");
        dueMiss(Samples.withOne(400, 400, 400, 0), 0);
        dueMiss(Samples.withOne(400, 400, 400, 1), 200);
        dueMiss(Samples.withOne(399, 401, 400, 1), 0);
        dueMiss(Samples.withOne(399, 401, 400, 2), 200);
        dueMiss(Samples.withOne(399, 400, 400, 2), 100 + 200);
        // Room at one end does not make up for what is missed at the other one.
        dueMiss(Samples.withOne(398, 1000, 400, 3), 100);
        dueMiss(Samples.withOne(0, 402, 400, 3), 100);
    }

    private static void keepsAllIfItMissesNone() {
        check.begin("terms: it keeps all if it misses none");
        for (int missed = -1; missed < 6; missed++) {
            GradingMixes x = Samples.withSieves(6, 0, 300);
            x.stock(7, 0, 100, false);
            for (int sieve = 0; sieve < 6; sieve++) {
                x.passes(0, sieve, sieve == missed ? 301 : 300, 0);
            }
            check.due("run(), sieve " + missed + " is missed", x.run(), missed < 0 ? 700 : BAD);
            check.due("count(5), sieve " + missed + " is missed", x.count(5), missed < 0 ? 1 : 0);
            check.due("count(4)", x.count(4), 1);
        }
        GradingMixes x = Samples.withStocks(2);
        check.due("without a sieve there is none to miss", x.count(5), 21);
    }

    private static void keepsAtTheWorstEnds() {
        check.begin("what it is: keeps all bands at their worst ends");
        GradingMixes x = Samples.withOne(390, 410, 400, 10);
        check.due("both ends lie on the band's", x.run(), 700);
        x.passes(0, 0, 400, 11);
        check.due("the middle alone is not enough", x.run(), BAD);
        x.passes(0, 0, 399, 10);
        check.due("the lower end is below", x.run(), BAD);
        x.passes(0, 0, 401, 10);
        check.due("the upper end is above", x.run(), BAD);
    }

    private static void bestCostsLeast() {
        check.begin("terms: best, of mixes that keep all, the one that costs least");
        GradingMixes x = new GradingMixes();
        x.step(1);
        x.stock(10, 99, 100, false);
        x.stock(11, 0, 100, false);
        check.due("1000 is less than 1001", x.run(), 1000);
        dueShares(x, 100, 0);
        GradingMixes y = new GradingMixes();
        y.step(1);
        y.stock(11, 99, 100, false);
        y.stock(10, 0, 100, false);
        check.due("1099 is less than 1100", y.run(), 1099);
        dueShares(y, 99, 1);
        y.sieve(0, 0);
        y.passes(1, 0, 1, 0);
        check.due("the cheaper one misses by 1", y.run(), 1100);
        dueShares(y, 100, 0);
    }

    /** 100 and 0, or 99 and 1: the second one costs far less. */
    private static GradingMixes twoThatMiss(int passing0, int passing1) {
        GradingMixes x = new GradingMixes();
        x.step(1);
        x.sieve(500, 1000);
        x.stock(100000, 99, 100, false);
        x.stock(0, 0, 1, false);
        x.passes(0, 0, passing0, 0);
        x.passes(1, 0, passing1, 0);
        return x;
    }

    private static void nearestMissesLeast() {
        check.begin("terms: nearest, the one that misses least");
        GradingMixes x = twoThatMiss(499, 498);
        check.due("100 is less than 101", x.near(), 100);
        dueShares(x, 100, 0);
        GradingMixes y = twoThatMiss(499, 500);
        check.due("99 is less than 100", y.near(), 99);
        dueShares(y, 99, 1);
        GradingMixes z = twoThatMiss(500, 499);
        check.due("0 is less than 1", z.near(), 0);
        dueShares(z, 100, 0);
    }

    private static void nearestOfAllSievesTogether() {
        check.begin("terms: misses least, all sieves together");
        GradingMixes x = new GradingMixes();
        x.step(100);
        x.sieve(500, 1000);
        x.sieve(500, 1000);
        x.stock(1, 0, 100, false);
        x.stock(1, 0, 100, false);
        x.passes(0, 0, 500, 0);
        x.passes(0, 1, 495, 0);
        x.passes(1, 0, 497, 0);
        x.passes(1, 1, 497, 0);
        check.due("500 is less than 300 and 300", x.near(), 500);
        dueShares(x, 100, 0);
        x.passes(1, 0, 498, 0);
        x.passes(1, 1, 498, 0);
        check.due("200 and 200 are less than 500", x.near(), 400);
        dueShares(x, 0, 100);
    }

    private static void nearestOfTheseCostsLeast() {
        check.begin("terms: nearest, of these the one that costs least");
        GradingMixes x = twoThatMiss(499, 499);
        check.due("both miss by 100", x.near(), 100);
        dueShares(x, 99, 1);
        GradingMixes y = new GradingMixes();
        y.sieve(1, 1000);
        y.stock(10, 0, 100, false);
        y.stock(11, 0, 100, false);
        check.due("all miss by 100", y.near(), 100);
        check.due("1000 is the least", y.cost(), 1000);
        dueShares(y, 100, 0);
    }

    private static void alikeOfBest() {
        check.begin("terms: of best ones that are alike, less of the first stock of which they have not the same");
        dueShares(alike(100, 0, false), 0, 0, 0, 100);
        dueShares(alike(50, 0, false), 0, 0, 50, 50);
        dueShares(alike(30, 0, false), 10, 30, 30, 30);
        dueShares(alike(30, 25, false), 25, 15, 30, 30);
        dueShares(alike(30, 10, false), 10, 30, 30, 30);
        GradingMixes x = new GradingMixes();
        x.stock(4, 0, 100, false);
        x.stock(5, 0, 100, false);
        x.run();
        dueShares(x, 100, 0);
    }

    private static void alikeOfNearest() {
        check.begin("terms: of nearest ones that are alike, less of the first stock of which they have not the same");
        dueShares(alike(100, 0, true), 0, 0, 0, 100);
        dueShares(alike(50, 0, true), 0, 0, 50, 50);
        dueShares(alike(30, 0, true), 10, 30, 30, 30);
        dueShares(alike(30, 25, true), 25, 15, 30, 30);
        dueShares(alike(30, 10, true), 10, 30, 30, 30);
    }

    /** Four stocks for the same price, of which nothing passes: all mixes are alike. */
    private static GradingMixes alike(int most, int leastOfFirst, boolean missing) {
        GradingMixes x = new GradingMixes();
        for (int i = 0; i < 4; i++) {
            x.stock(5, i == 0 ? leastOfFirst : 0, most, false);
        }
        x.sieve(missing ? 1 : 0, 1000);
        check.due("the first that is found", missing ? x.near() : x.run(), missing ? 100 : 500);
        return x;
    }

    private static void runNone() {
        check.begin("promise 10: BAD: there is none");
        check.due("no stocks", new GradingMixes().run(), BAD);
        GradingMixes x = Samples.withOne(400, 600, 400, 0);
        check.due("one", x.run(), 700);
        x.passes(0, 0, 399, 0);
        check.due("none", x.run(), BAD);
        check.due("nothing at hand", x.cost(), BAD);
        x.passes(0, 0, 600, 0);
        check.due("one again", x.run(), 700);
        x.passes(0, 0, 601, 0);
        check.due("none again", x.run(), BAD);
        GradingMixes free = new GradingMixes();
        free.stock(0, 0, 100, false);
        check.due("one for nothing is not BAD", free.run(), 0);
        GradingMixes noMix = new GradingMixes();
        noMix.stock(1, 0, 95, false);
        check.due("no mix at all", noMix.run(), BAD);
    }

    private static void runWhatWasAtHandStays() {
        check.begin("promise 10: what was at hand stays");
        GradingMixes x = Samples.missing();
        dueShares(x, 80, 20);
        for (int again = 0; again < 2; again++) {
            check.due("run()", x.run(), BAD);
            dueShares(x, 80, 20);
            check.due("cost()", x.cost(), 80 * 7 + 20 * 3);
            check.due("told(0, 0)", x.told(0, 0), 80 * 490 + 20 * 450);
            check.due("mass(0, false)", x.mass(0, false), 79);
            check.due("count(2)", x.count(2), 1);
            check.due("batch(99)", x.batch(99), 0);
        }
    }

    private static void nearNoMixAtAll() {
        check.begin("promise 11: BAD: there is no mix at all");
        check.due("no stocks", new GradingMixes().near(), BAD);
        GradingMixes x = new GradingMixes();
        x.sieve(1000, 1000);
        x.stock(1, 0, 95, false);
        check.due("together at most 95", x.near(), BAD);
        check.due("nothing at hand", x.share(0), BAD);
        x.stock(1, 0, 5, false);
        check.due("together 100, and all is missed", x.near(), 100000);
        dueShares(x, 95, 5);
        x.step(10);
        check.due("together 90 by this step", x.near(), BAD);
        check.due("nothing at hand", x.share(0), BAD);
    }

    private static void nearIsAtHand() {
        check.begin("promise 11: by how much it misses, 0 if it keeps all; it is at hand then");
        GradingMixes x = Samples.withOne(400, 600, 400, 0);
        check.due("keeps all", x.near(), 0);
        check.due("cost()", x.cost(), 700);
        x.passes(0, 0, 399, 0);
        check.due("misses", x.near(), 100);
        check.due("cost()", x.cost(), 700);
        check.due("as much as six sieves can be missed", worstOfSix().near(), 600000);
    }

    private static GradingMixes worstOfSix() {
        GradingMixes x = Samples.withSieves(6, 1000, 1000);
        x.stock(100000, 0, 100, false);
        return x;
    }

    private static void shareOfAStockThatIs() {
        check.begin("promise 12: BAD: none such, the stock");
        for (int stocks = 1; stocks <= 4; stocks++) {
            GradingMixes x = Samples.withStocks(stocks);
            x.run();
            check.due("share(-1) of " + stocks, x.share(-1), BAD);
            for (int i = 0; i < stocks; i++) {
                check.due("share(" + i + ") of " + stocks, x.share(i), i == stocks - 1 ? 100 : 0);
            }
            check.due("share(" + stocks + "), one behind the last", x.share(stocks), BAD);
            check.due("share(MIN)", x.share(MIN), BAD);
            check.due("share(MAX)", x.share(MAX), BAD);
        }
    }

    private static void shareWithoutMix() {
        check.begin("promise 12: BAD: no mix at hand");
        GradingMixes x = Samples.withStocks(1);
        check.due("before run()", x.share(0), BAD);
        x.run();
        check.due("behind run()", x.share(0), 100);
        x.cap(100);
        check.due("behind a change", x.share(0), BAD);
        x.near();
        check.due("behind near()", x.share(0), 100);
    }

    private static void toldAtASieveThatIs() {
        check.begin("promise 13: BAD: none such, the sieve");
        for (int sieves = 0; sieves <= 6; sieves++) {
            GradingMixes x = Samples.withSieves(sieves, 0, 1000);
            x.stock(1, 0, 100, false);
            for (int i = 0; i < sieves; i++) {
                x.passes(0, i, 100 + i, 0);
            }
            x.run();
            check.due("told(-1, 0) of " + sieves, x.told(-1, 0), BAD);
            for (int i = 0; i < sieves; i++) {
                check.due("told(" + i + ", 0) of " + sieves, x.told(i, 0), 10000 + 100 * i);
            }
            check.due("told(" + sieves + ", 0), one behind the last", x.told(sieves, 0), BAD);
            check.due("told(MIN, 0)", x.told(MIN, 0), BAD);
            check.due("told(MAX, 0)", x.told(MAX, 0), BAD);
        }
    }

    private static void toldWhat() {
        check.begin("promise 13: BAD: none such, what is told");
        GradingMixes x = Samples.withOne(398, 401, 400, 3);
        x.near();
        check.due("told(0, -1)", x.told(0, -1), BAD);
        check.due("told(0, 0)", x.told(0, 0), 40000);
        check.due("told(0, 1)", x.told(0, 1), 39700);
        check.due("told(0, 2)", x.told(0, 2), 40300);
        check.due("told(0, 3)", x.told(0, 3), 100 + 200);
        check.due("told(0, 4)", x.told(0, 4), BAD);
        check.due("told(0, MIN)", x.told(0, MIN), BAD);
        check.due("told(0, MAX)", x.told(0, MAX), BAD);
    }

    private static void toldWithoutMix() {
        check.begin("promise 13: BAD: no mix at hand");
        GradingMixes x = Samples.withOne(0, 1000, 400, 3);
        for (int what = 0; what <= 3; what++) {
            check.due("told(0, " + what + ") before run()", x.told(0, what), BAD);
        }
        x.run();
        check.due("behind run()", x.told(0, 0), 40000);
        x.band(0, 0, 1000);
        check.due("behind a change", x.told(0, 0), BAD);
    }

    private static void costNone() {
        check.begin("promise 14: BAD: none");
        GradingMixes x = new GradingMixes();
        x.stock(0, 0, 100, false);
        check.due("before run()", x.cost(), BAD);
        x.run();
        check.due("0 is not BAD", x.cost(), 0);
        x.step(5);
        check.due("behind a change", x.cost(), BAD);
        GradingMixes dearest = new GradingMixes();
        dearest.stock(100000, 0, 100, false);
        dearest.near();
        check.due("the dearest", dearest.cost(), 10000000);
    }

    private static void lonelyWhich() {
        check.begin("promise 15: BAD: none such, from none to six");
        for (int lonely = 0; lonely <= 6; lonely++) {
            GradingMixes x = new GradingMixes();
            for (int i = 0; i < 6; i++) {
                x.sieve(i >= 6 - lonely ? 1 : 0, 1000);
            }
            x.stock(1, 0, 100, false);
            check.due("lonely(-1) of " + lonely, x.lonely(-1), BAD);
            for (int k = 0; k < lonely; k++) {
                check.due("lonely(" + k + ") of " + lonely, x.lonely(k), 6 - lonely + k);
            }
            check.due("lonely(" + lonely + "), one behind the last", x.lonely(lonely), BAD);
            check.due("lonely(MIN)", x.lonely(MIN), BAD);
            check.due("lonely(MAX)", x.lonely(MAX), BAD);
        }
        GradingMixes x = Samples.withStocks(1);
        check.due("no sieves", x.lonely(0), BAD);
    }

    private static void lonelyByOne() {
        check.begin("promise 15: a sieve that no mix keeps");
        check.due("just kept at its low", oneOff(300, 1000, 300).lonely(0), BAD);
        check.due("missed by 1 at its low", oneOff(300, 1000, 299).lonely(0), 0);
        check.due("just kept at its high", oneOff(0, 300, 300).lonely(0), BAD);
        check.due("missed by 1 at its high", oneOff(0, 300, 301).lonely(0), 0);
        GradingMixes x = Samples.withOne(0, 100, 101, 0);
        check.due("one stock misses it", x.lonely(0), 0);
        x.stock(9, 0, 4, false);
        check.due("4 is no multiple of the step", x.lonely(0), 0);
        x.stock(9, 0, 5, false);
        check.due("one mix of two keeps it", x.lonely(0), BAD);
        check.due("count(4)", x.count(4), 2);
        check.due("count(5)", x.count(5), 1);
    }

    private static void lonelyWhateverItDoesWithOthers() {
        check.begin("promise 15: whatever it does with all others");
        GradingMixes x = new GradingMixes();
        x.sieve(1000, 1000);
        x.sieve(0, 0);
        x.sieve(1, 999);
        x.stock(1, 0, 100, false);
        x.stock(1, 0, 100, false);
        for (int sieve = 0; sieve < 3; sieve++) {
            x.passes(0, sieve, 1000, 0);
        }
        check.due("no mix keeps all", x.run(), BAD);
        check.due("each is kept by some mix", x.lonely(0), BAD);
        x.step(100);
        check.due("now no mix keeps sieve 2", x.lonely(0), 2);
        check.due("only that one", x.lonely(1), BAD);
    }

    private static void lonelyNoMixAtAll() {
        check.begin("promise 15: BAD: there is no mix at all");
        GradingMixes x = new GradingMixes();
        x.sieve(1, 1);
        check.due("no stocks", x.lonely(0), BAD);
        x.stock(1, 0, 95, false);
        check.due("together at most 95", x.lonely(0), BAD);
        x.stock(1, 0, 5, false);
        check.due("one mix", x.lonely(0), 0);
        x.step(10);
        check.due("none by this step", x.lonely(0), BAD);
    }

    /** 100 of a dear stock keeps the band from 300 to 700; 5 more of the cheap one take 15 from it or give 15. */
    private static GradingMixes saving(boolean upper) {
        GradingMixes x = new GradingMixes();
        x.sieve(upper ? 0 : 300, upper ? 700 : 1000);
        x.stock(9, 0, 100, false);
        x.stock(2, 0, 100, false);
        x.passes(0, 0, upper ? 700 : 300, 0);
        x.passes(1, 0, upper ? 1000 : 0, 0);
        return x;
    }

    private static void worthOfASieveThatIs() {
        check.begin("promise 16: BAD: none such, the sieve");
        for (int sieves = 0; sieves <= 6; sieves++) {
            GradingMixes x = Samples.withSieves(sieves, 0, 1000);
            x.stock(1, 0, 100, false);
            check.due("sieve -1 of " + sieves, x.worth(-1, true, 1), BAD);
            for (int i = 0; i < sieves; i++) {
                check.due("sieve " + i + " of " + sieves, x.worth(i, true, 1), 0);
                check.due("sieve " + i + " of " + sieves, x.worth(i, false, 1), 0);
            }
            check.due("sieve " + sieves + ", one behind the last", x.worth(sieves, true, 1), BAD);
            check.due("sieve " + sieves + ", one behind the last", x.worth(sieves, false, 1), BAD);
            check.due("sieve MIN", x.worth(MIN, true, 1), BAD);
            check.due("sieve MAX", x.worth(MAX, true, 1), BAD);
        }
    }

    private static void worthBy() {
        check.begin("promise 16: by 0 .. 1000");
        for (int end = 0; end < 2; end++) {
            boolean upper = end == 1;
            GradingMixes x = saving(upper);
            check.due("by -1, " + upper, x.worth(0, upper, -1), BAD);
            check.due("by 0, " + upper, x.worth(0, upper, 0), 0);
            check.due("by 1000, " + upper, x.worth(0, upper, 1000), 700);
            check.due("by 1001, " + upper, x.worth(0, upper, 1001), BAD);
            check.due("by MIN, " + upper, x.worth(0, upper, MIN), BAD);
            check.due("by MAX, " + upper, x.worth(0, upper, MAX), BAD);
        }
    }

    private static void worthJustEnough() {
        check.begin("promise 16: so much lower, or so much higher");
        for (int end = 0; end < 2; end++) {
            boolean upper = end == 1;
            GradingMixes x = saving(upper);
            check.due("14 is not enough, " + upper, x.worth(0, upper, 14), 0);
            check.due("15 is enough for 5, " + upper, x.worth(0, upper, 15), 35);
            check.due("29 is enough for 5, " + upper, x.worth(0, upper, 29), 35);
            check.due("30 is enough for 10, " + upper, x.worth(0, upper, 30), 70);
            check.due("299 is enough for 95, " + upper, x.worth(0, upper, 299), 665);
            check.due("300 is enough for all, " + upper, x.worth(0, upper, 300), 700);
            check.due("the other end does not help, " + upper, x.worth(0, !upper, 300), 0);
        }
    }

    private static void worthNotBeyond0() {
        check.begin("promise 16: not beyond 0");
        GradingMixes x = saving(false);
        check.due("down to 0", x.worth(0, false, 300), 700);
        check.due("no further", x.worth(0, false, 301), 700);
        check.due("low is 0 already", saving(true).worth(0, false, 1), 0);
    }

    private static void worthNotBeyond1000() {
        check.begin("promise 16: not beyond 1000");
        GradingMixes x = saving(true);
        check.due("up to 1000", x.worth(0, true, 300), 700);
        check.due("no further", x.worth(0, true, 301), 700);
        check.due("high is 1000 already", saving(false).worth(0, true, 1), 0);
    }

    private static void worthNoBestMix() {
        check.begin("promise 16: BAD: there is no best mix");
        check.due("no sieve, no stock", new GradingMixes().worth(0, true, 0), BAD);
        GradingMixes x = Samples.withOne(500, 600, 499, 0);
        check.due("a wider band would have one", x.worth(0, false, 1), BAD);
        x.near();
        check.due("the nearest at hand is no best one", x.worth(0, false, 1), BAD);
        x.passes(0, 0, 500, 0);
        check.due("now there is one, though not at hand", x.worth(0, false, 1), 0);
        GradingMixes y = new GradingMixes();
        y.sieve(0, 1000);
        y.stock(1, 0, 95, false);
        check.due("no mix at all", y.worth(0, true, 0), BAD);
    }

    private static void worthWhatIsAtHandStays() {
        check.begin("promise 16: what is at hand stays");
        GradingMixes x = saving(true);
        check.due("nothing at hand", x.worth(0, true, 300), 700);
        check.due("still nothing", x.cost(), BAD);
        x.run();
        x.batch(60);
        x.test(0, 701);
        check.due("worth", x.worth(0, true, 300), 700);
        dueShares(x, 100, 0);
        check.due("cost()", x.cost(), 900);
        check.due("mass(0, false)", x.mass(0, false), 60);
        check.due("count(2)", x.count(2), 1);
        check.due("the band stays too", x.test(0, 701), 1);
        check.due("and those that keep it", x.count(5), 1);
        check.due("and the best one", x.run(), 900);
    }
}
