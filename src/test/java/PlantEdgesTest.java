/** Promises 1 to 7 and the terms behind them: both sides of each boundary that they name. */
public final class PlantEdgesTest {
    private static final int BAD = GradingMixes.BAD;
    private static final int MIN = Integer.MIN_VALUE;
    private static final int MAX = Integer.MAX_VALUE;
    private static final Check check = new Check();

    public static void main(String[] args) {
        newObjectHasNoSieves();
        newObjectHasNoStocks();
        newObjectHasNoMixAtHand();
        newObjectSharesNothing();
        sieveLowFrom0();
        sieveLowUpToHigh();
        sieveHighUpTo1000();
        sieveThereAre6();
        bandOfASieveThatIs();
        bandLowFrom0();
        bandLowUpToHigh();
        bandHighUpTo1000();
        bandAnewOfOneSieve();
        stockPrice();
        stockLeastFrom0();
        stockLeastUpToMost();
        stockMostUpTo100();
        stockThereAre4();
        passesOfAStockThatIs();
        passesAtASieveThatIs();
        passesPassing();
        passesOff();
        passes0And0AtFirst();
        passesNeverLessThan0();
        passesNeverMoreThan1000();
        capFrom0To100();
        cap100AtFirst();
        capAllOldOnesTogether();
        capOnlyOldOnes();
        stepThoseOfTheList();
        step5AtFirst();
        stepMultiples();
        shareFromLeast();
        shareToMost();
        sharesTogether100();
        check.end();
    }

    private static void newObjectHasNoSieves() {
        check.begin("promise 1: no sieves");
        GradingMixes x = new GradingMixes();
        check.due("count(0)", x.count(0), 0);
        check.due("test(0, 0)", x.test(0, 0), BAD);
        check.due("band(0, 0, 0)", x.band(0, 0, 0), false);
        check.due("sieve(0, 1000) is the first", x.sieve(0, 1000), 0);
        check.due("count(0)", x.count(0), 1);
        check.due("test(0, 0)", x.test(0, 0), 0);
        check.due("band(0, 0, 0)", x.band(0, 0, 0), true);
    }

    private static void newObjectHasNoStocks() {
        check.begin("promise 1: no stocks");
        GradingMixes x = new GradingMixes();
        check.due("count(1)", x.count(1), 0);
        check.due("water(0, 0)", x.water(0, 0), BAD);
        check.due("run()", x.run(), BAD);
        check.due("near()", x.near(), BAD);
        check.due("stock(5, 0, 100, true) is the first", x.stock(5, 0, 100, true), 0);
        check.due("count(1)", x.count(1), 1);
        check.due("water(0, 0)", x.water(0, 0), 0);
        check.due("run()", x.run(), 500);
    }

    private static void newObjectHasNoMixAtHand() {
        check.begin("promise 1: no mix at hand");
        GradingMixes x = new GradingMixes();
        x.sieve(0, 1000);
        x.stock(5, 0, 100, false);
        check.due("share(0)", x.share(0), BAD);
        check.due("told(0, 0)", x.told(0, 0), BAD);
        check.due("cost()", x.cost(), BAD);
        check.due("batch(0)", x.batch(0), BAD);
        check.due("mass(0, false)", x.mass(0, false), BAD);
        x.run();
        check.due("share(0) behind run()", x.share(0), 100);
        check.due("told(0, 0) behind run()", x.told(0, 0), 0);
        check.due("cost() behind run()", x.cost(), 500);
        check.due("batch(0) behind run()", x.batch(0), 0);
        check.due("mass(0, false) behind batch(0)", x.mass(0, false), 0);
    }

    private static void newObjectSharesNothing() {
        check.begin("promise 1: nothing of another object");
        GradingMixes other = Samples.full();
        GradingMixes x = new GradingMixes();
        for (int what = 0; what <= 5; what++) {
            check.due("count(" + what + ")", x.count(what), 0);
        }
        check.due("cost()", x.cost(), BAD);
        check.due("fired(0, 0)", x.fired(0, 0), BAD);
        check.due("read() with no sign", x.read(), -1);
        check.due("the other one has its sieves", other.count(0), 6);
        check.due("the other one has its tests", other.count(2), 100);
    }

    private static void sieveLowFrom0() {
        check.begin("promise 2: 0 <= low");
        GradingMixes x = new GradingMixes();
        check.due("sieve(-1, 10)", x.sieve(-1, 10), BAD);
        check.due("sieve(-1, -1)", x.sieve(-1, -1), BAD);
        check.due("sieve(MIN, 10)", x.sieve(MIN, 10), BAD);
        check.due("none came", x.count(0), 0);
        check.due("sieve(0, 10)", x.sieve(0, 10), 0);
        Samples.dueBand(check, x, 0, 0, 10);
    }

    private static void sieveLowUpToHigh() {
        check.begin("promise 2: low <= high");
        GradingMixes x = new GradingMixes();
        check.due("sieve(501, 500)", x.sieve(501, 500), BAD);
        check.due("sieve(1, 0)", x.sieve(1, 0), BAD);
        check.due("sieve(1000, 999)", x.sieve(1000, 999), BAD);
        check.due("sieve(1001, 1000)", x.sieve(1001, 1000), BAD);
        check.due("sieve(MAX, MIN)", x.sieve(MAX, MIN), BAD);
        check.due("none came", x.count(0), 0);
        check.due("sieve(500, 500)", x.sieve(500, 500), 0);
        check.due("sieve(0, 0)", x.sieve(0, 0), 1);
        check.due("sieve(1000, 1000)", x.sieve(1000, 1000), 2);
        check.due("sieve(499, 500)", x.sieve(499, 500), 3);
        Samples.dueBand(check, x, 0, 500, 500);
        Samples.dueBand(check, x, 1, 0, 0);
        Samples.dueBand(check, x, 2, 1000, 1000);
        Samples.dueBand(check, x, 3, 499, 500);
    }

    private static void sieveHighUpTo1000() {
        check.begin("promise 2: high <= 1000");
        GradingMixes x = new GradingMixes();
        check.due("sieve(10, 1001)", x.sieve(10, 1001), BAD);
        check.due("sieve(1001, 1001)", x.sieve(1001, 1001), BAD);
        check.due("sieve(10, MAX)", x.sieve(10, MAX), BAD);
        check.due("none came", x.count(0), 0);
        check.due("sieve(10, 1000)", x.sieve(10, 1000), 0);
        Samples.dueBand(check, x, 0, 10, 1000);
    }

    private static void sieveThereAre6() {
        check.begin("promise 2: there are 6");
        GradingMixes x = new GradingMixes();
        for (int i = 0; i < 6; i++) {
            check.due("sieve " + i, x.sieve(10 * i, 10 * i + 5), i);
            check.due("count(0)", x.count(0), i + 1);
        }
        check.due("the seventh", x.sieve(0, 1000), BAD);
        check.due("the seventh again", x.sieve(0, 1000), BAD);
        check.due("count(0)", x.count(0), 6);
        for (int i = 0; i < 6; i++) {
            Samples.dueBand(check, x, i, 10 * i, 10 * i + 5);
        }
    }

    private static void bandOfASieveThatIs() {
        check.begin("promise 3: none such, the sieve");
        for (int sieves = 0; sieves <= 6; sieves++) {
            GradingMixes x = Samples.withSieves(sieves, 10, 20);
            check.due("band(-1, ..) of " + sieves, x.band(-1, 1, 2), false);
            check.due("band(" + sieves + ", ..), one behind the last", x.band(sieves, 1, 2), false);
            check.due("band(MIN, ..)", x.band(MIN, 1, 2), false);
            check.due("band(MAX, ..)", x.band(MAX, 1, 2), false);
            for (int i = 0; i < sieves; i++) {
                check.due("band(" + i + ", ..) of " + sieves, x.band(i, 1, 2), true);
            }
        }
    }

    private static void bandLowFrom0() {
        check.begin("promise 3: none such, 0 <= low");
        GradingMixes x = Samples.withSieves(1, 10, 20);
        check.due("band(0, -1, 5)", x.band(0, -1, 5), false);
        check.due("band(0, MIN, 5)", x.band(0, MIN, 5), false);
        Samples.dueBand(check, x, 0, 10, 20);
        check.due("band(0, 0, 5)", x.band(0, 0, 5), true);
        Samples.dueBand(check, x, 0, 0, 5);
    }

    private static void bandLowUpToHigh() {
        check.begin("promise 3: none such, low <= high");
        GradingMixes x = Samples.withSieves(1, 10, 20);
        check.due("band(0, 6, 5)", x.band(0, 6, 5), false);
        check.due("band(0, 1000, 0)", x.band(0, 1000, 0), false);
        Samples.dueBand(check, x, 0, 10, 20);
        check.due("band(0, 5, 5)", x.band(0, 5, 5), true);
        Samples.dueBand(check, x, 0, 5, 5);
    }

    private static void bandHighUpTo1000() {
        check.begin("promise 3: none such, high <= 1000");
        GradingMixes x = Samples.withSieves(1, 10, 20);
        check.due("band(0, 5, 1001)", x.band(0, 5, 1001), false);
        check.due("band(0, 5, MAX)", x.band(0, 5, MAX), false);
        Samples.dueBand(check, x, 0, 10, 20);
        check.due("band(0, 5, 1000)", x.band(0, 5, 1000), true);
        Samples.dueBand(check, x, 0, 5, 1000);
    }

    private static void bandAnewOfOneSieve() {
        check.begin("promise 3: the band of that sieve alone, the first and the last one too");
        GradingMixes x = Samples.withSieves(6, 10, 20);
        check.due("band(0, 300, 400)", x.band(0, 300, 400), true);
        check.due("band(5, 500, 600)", x.band(5, 500, 600), true);
        Samples.dueBand(check, x, 0, 300, 400);
        for (int i = 1; i < 5; i++) {
            Samples.dueBand(check, x, i, 10, 20);
        }
        Samples.dueBand(check, x, 5, 500, 600);
        check.due("no sieve came by it", x.count(0), 6);
    }

    private static void stockPrice() {
        check.begin("promise 4: price 0 .. 100,000");
        GradingMixes x = new GradingMixes();
        check.due("price -1", x.stock(-1, 0, 100, false), BAD);
        check.due("price 100001", x.stock(100001, 0, 100, false), BAD);
        check.due("price MIN", x.stock(MIN, 0, 100, false), BAD);
        check.due("price MAX", x.stock(MAX, 0, 100, false), BAD);
        check.due("none came", x.count(1), 0);
        check.due("price 100000", x.stock(100000, 0, 100, false), 0);
        check.due("100 of the dearest", x.run(), 10000000);
        check.due("price 0", x.stock(0, 0, 100, false), 1);
        check.due("100 of the one for nothing", x.run(), 0);
    }

    private static void stockLeastFrom0() {
        check.begin("promise 4: 0 <= least");
        GradingMixes x = new GradingMixes();
        check.due("least -1", x.stock(1, -1, 100, false), BAD);
        check.due("least -1, most -1", x.stock(1, -1, -1, false), BAD);
        check.due("least MIN", x.stock(1, MIN, 100, false), BAD);
        check.due("none came", x.count(1), 0);
        check.due("least 0", x.stock(1, 0, 100, false), 0);
    }

    private static void stockLeastUpToMost() {
        check.begin("promise 4: least <= most");
        GradingMixes x = new GradingMixes();
        check.due("51, 50", x.stock(1, 51, 50, false), BAD);
        check.due("1, 0", x.stock(1, 1, 0, false), BAD);
        check.due("101, 100", x.stock(1, 101, 100, false), BAD);
        check.due("MAX, MIN", x.stock(1, MAX, MIN, false), BAD);
        check.due("none came", x.count(1), 0);
        check.due("50, 50", x.stock(1, 50, 50, false), 0);
        check.due("0, 0", x.stock(1, 0, 0, false), 1);
        check.due("49, 50", x.stock(1, 49, 50, false), 2);
        check.due("50, 0 and 50", x.run(), 100);
        check.due("100, 100", x.stock(1, 100, 100, false), 3);
    }

    private static void stockMostUpTo100() {
        check.begin("promise 4: most <= 100");
        GradingMixes x = new GradingMixes();
        check.due("most 101", x.stock(1, 0, 101, false), BAD);
        check.due("101, 101", x.stock(1, 101, 101, false), BAD);
        check.due("most MAX", x.stock(1, 0, MAX, false), BAD);
        check.due("none came", x.count(1), 0);
        check.due("most 100", x.stock(1, 0, 100, false), 0);
        check.due("it may be all", x.run(), 100);
    }

    private static void stockThereAre4() {
        check.begin("promise 4: there are 4");
        GradingMixes x = new GradingMixes();
        for (int i = 0; i < 4; i++) {
            check.due("stock " + i, x.stock(i, 25, 25, false), i);
            check.due("count(1)", x.count(1), i + 1);
        }
        check.due("the fifth", x.stock(9, 0, 100, false), BAD);
        check.due("the fifth again", x.stock(9, 0, 100, false), BAD);
        check.due("count(1)", x.count(1), 4);
        check.due("the four are as they were", x.run(), 25 * (1 + 2 + 3));
    }

    private static void passesOfAStockThatIs() {
        check.begin("promise 5: none such, the stock");
        for (int stocks = 0; stocks <= 4; stocks++) {
            GradingMixes x = Samples.withStocks(stocks);
            x.sieve(0, 1000);
            check.due("stock -1 of " + stocks, x.passes(-1, 0, 1, 1), false);
            check.due("stock " + stocks + ", one behind the last", x.passes(stocks, 0, 1, 1), false);
            check.due("stock MIN", x.passes(MIN, 0, 1, 1), false);
            check.due("stock MAX", x.passes(MAX, 0, 1, 1), false);
            for (int i = 0; i < stocks; i++) {
                check.due("stock " + i + " of " + stocks, x.passes(i, 0, 1, 1), true);
            }
        }
    }

    private static void passesAtASieveThatIs() {
        check.begin("promise 5: none such, the sieve");
        for (int sieves = 0; sieves <= 6; sieves++) {
            GradingMixes x = Samples.withSieves(sieves, 0, 1000);
            x.stock(1, 0, 100, false);
            check.due("sieve -1 of " + sieves, x.passes(0, -1, 1, 1), false);
            check.due("sieve " + sieves + ", one behind the last", x.passes(0, sieves, 1, 1), false);
            check.due("sieve MIN", x.passes(0, MIN, 1, 1), false);
            check.due("sieve MAX", x.passes(0, MAX, 1, 1), false);
            for (int i = 0; i < sieves; i++) {
                check.due("sieve " + i + " of " + sieves, x.passes(0, i, 1, 1), true);
            }
        }
    }

    private static void passesPassing() {
        check.begin("promise 5: passing 0 .. 1000");
        GradingMixes x = Samples.withOne(0, 1000, 400, 0);
        check.due("-1", x.passes(0, 0, -1, 0), false);
        check.due("1001", x.passes(0, 0, 1001, 0), false);
        check.due("MIN", x.passes(0, 0, MIN, 0), false);
        check.due("MAX", x.passes(0, 0, MAX, 0), false);
        x.run();
        check.due("the middle is as it was", x.told(0, 0), 40000);
        check.due("0", x.passes(0, 0, 0, 0), true);
        x.run();
        check.due("the middle at 0", x.told(0, 0), 0);
        check.due("1000", x.passes(0, 0, 1000, 0), true);
        x.run();
        check.due("the middle at 1000", x.told(0, 0), 100000);
    }

    private static void passesOff() {
        check.begin("promise 5: off 0 .. 300");
        GradingMixes x = Samples.withOne(0, 1000, 400, 10);
        check.due("-1", x.passes(0, 0, 400, -1), false);
        check.due("301", x.passes(0, 0, 400, 301), false);
        check.due("MIN", x.passes(0, 0, 400, MIN), false);
        check.due("MAX", x.passes(0, 0, 400, MAX), false);
        x.run();
        dueEnds(x, 39000, 41000);
        check.due("0", x.passes(0, 0, 400, 0), true);
        x.run();
        dueEnds(x, 40000, 40000);
        check.due("300", x.passes(0, 0, 400, 300), true);
        x.run();
        dueEnds(x, 10000, 70000);
    }

    private static void dueEnds(GradingMixes x, int lower, int upper) {
        check.due("lower end", x.told(0, 1), lower);
        check.due("upper end", x.told(0, 2), upper);
    }

    private static void passes0And0AtFirst() {
        check.begin("terms: passes 0, off by 0 at first");
        GradingMixes x = Samples.withOne(0, 1000, 400, 10);
        x.sieve(0, 1000);
        x.run();
        for (int what = 0; what < 3; what++) {
            check.due("a stock at a sieve that came behind it, told " + what, x.told(1, what), 0);
        }
        x.passes(0, 1, 500, 20);
        x.stock(0, 100, 100, false);
        x.stock(0, 0, 0, false);
        x.run();
        for (int what = 0; what < 3; what++) {
            check.due("a stock that came behind the sieves, told " + what, x.told(0, what), 0);
            check.due("the same at the other sieve, told " + what, x.told(1, what), 0);
        }
    }

    private static void passesNeverLessThan0() {
        check.begin("terms: as many less as they are off, never less than 0");
        GradingMixes x = Samples.withOne(0, 1000, 101, 100);
        x.run();
        dueEnds(x, 100, 20100);
        x.passes(0, 0, 100, 100);
        x.run();
        dueEnds(x, 0, 20000);
        x.passes(0, 0, 99, 100);
        x.run();
        dueEnds(x, 0, 19900);
        check.due("the middle is not cut", x.told(0, 0), 9900);
        x.passes(0, 0, 0, 300);
        x.run();
        dueEnds(x, 0, 30000);
        // What one stock lacks below 0 takes nothing from another one.
        x.stock(9, 50, 50, false);
        x.passes(1, 0, 500, 0);
        x.run();
        dueEnds(x, 50 * 500, 50 * 300 + 50 * 500);
    }

    private static void passesNeverMoreThan1000() {
        check.begin("terms: as many more as they are off, never more than 1000");
        GradingMixes x = Samples.withOne(0, 1000, 899, 100);
        x.run();
        dueEnds(x, 79900, 99900);
        x.passes(0, 0, 900, 100);
        x.run();
        dueEnds(x, 80000, 100000);
        x.passes(0, 0, 901, 100);
        x.run();
        dueEnds(x, 80100, 100000);
        check.due("the middle is not cut", x.told(0, 0), 90100);
        x.passes(0, 0, 1000, 300);
        check.due("1000 is kept by a band up to 1000", x.run(), 700);
        dueEnds(x, 70000, 100000);
        x.stock(9, 50, 50, false);
        x.passes(1, 0, 500, 0);
        x.run();
        dueEnds(x, 50 * 700 + 50 * 500, 50 * 1000 + 50 * 500);
    }

    private static void capFrom0To100() {
        check.begin("promise 6: 0 .. 100");
        GradingMixes x = new GradingMixes();
        x.cap(40);
        check.due("cap(-1)", x.cap(-1), BAD);
        check.due("cap(101)", x.cap(101), BAD);
        check.due("cap(MIN)", x.cap(MIN), BAD);
        check.due("cap(MAX)", x.cap(MAX), BAD);
        check.due("cap(0): it was 40 all the while", x.cap(0), 40);
        check.due("cap(100): it was 0", x.cap(100), 0);
        check.due("cap(1): it was 100", x.cap(1), 100);
        check.due("cap(99): it was 1", x.cap(99), 1);
        check.due("cap(99): it was 99", x.cap(99), 99);
    }

    private static void cap100AtFirst() {
        check.begin("terms: the cap is 100 at first");
        GradingMixes x = new GradingMixes();
        x.stock(1, 0, 100, true);
        check.due("all may be old", x.run(), 100);
        check.due("what it was", x.cap(99), 100);
        check.due("all may not be old", x.run(), BAD);
        check.due("nor is there such a mix", x.near(), BAD);
    }

    private static void capAllOldOnesTogether() {
        check.begin("terms: all old ones together are at most the cap");
        GradingMixes x = new GradingMixes();
        x.stock(1, 0, 100, true);
        x.stock(9, 0, 100, false);
        x.stock(2, 20, 100, true);
        x.cap(40);
        check.due("40 are old", x.run(), 20 + 2 * 20 + 9 * 60);
        x.cap(39);
        check.due("39 is not enough for 40", x.run(), 15 + 2 * 20 + 9 * 65);
        x.cap(20);
        check.due("20 are enough for the least of the last", x.count(4), 1);
        check.due("only the last old one", x.run(), 2 * 20 + 9 * 80);
        x.cap(19);
        check.due("19 are not", x.count(4), 0);
    }

    private static void capOnlyOldOnes() {
        check.begin("terms: the cap is for old ones alone");
        GradingMixes x = new GradingMixes();
        x.stock(1, 0, 100, false);
        x.stock(0, 0, 100, true);
        x.cap(0);
        check.due("none of the old one", x.run(), 100);
        check.due("one mix", x.count(4), 1);
        x.cap(5);
        check.due("5 of the old one", x.run(), 95);
        check.due("two mixes", x.count(4), 2);
    }

    private static void stepThoseOfTheList() {
        check.begin("promise 7: 1, 2, 4, 5, 10, 20, 25, 50, 100, no other one");
        GradingMixes x = new GradingMixes();
        boolean[] listed = new boolean[301];
        for (int percent : new int[] {1, 2, 4, 5, 10, 20, 25, 50, 100}) {
            listed[percent] = true;
        }
        int was = 5;
        for (int percent = -100; percent <= 300; percent++) {
            boolean taken = percent >= 0 && listed[percent];
            check.due("step(" + percent + ")", x.step(percent), taken ? was : BAD);
            was = taken ? percent : was;
        }
        check.due("step(MIN)", x.step(MIN), BAD);
        check.due("step(MAX)", x.step(MAX), BAD);
        check.due("the last one of the list is still it", x.step(5), 100);
    }

    private static void step5AtFirst() {
        check.begin("terms: the step is 5 at first");
        GradingMixes x = Samples.withStocks(2);
        check.due("0, 5, .. 100", x.count(4), 21);
        check.due("what it was", x.step(5), 5);
        check.due("the same mixes", x.count(4), 21);
    }

    private static void stepMultiples() {
        check.begin("terms: shares are multiples of the step");
        int[] steps = {1, 2, 4, 5, 10, 20, 25, 50, 100};
        int[] ofTwo = {101, 51, 26, 21, 11, 6, 5, 3, 2};
        int[] ofFour = {176851, 23426, 3276, 1771, 286, 56, 35, 10, 4};
        for (int i = 0; i < steps.length; i++) {
            GradingMixes two = Samples.withStocks(2);
            two.step(steps[i]);
            check.due("two stocks, step " + steps[i], two.count(4), ofTwo[i]);
            GradingMixes four = Samples.withStocks(4);
            four.step(steps[i]);
            check.due("four stocks, step " + steps[i], four.count(4), ofFour[i]);
        }
        GradingMixes x = new GradingMixes();
        x.stock(9, 7, 100, false);
        x.stock(1, 0, 100, false);
        x.step(25);
        check.due("the first multiple from 7 is 25, not 7 nor 32", x.run(), 25 * 9 + 75);
    }

    private static void shareFromLeast() {
        check.begin("terms: from its least");
        GradingMixes x = new GradingMixes();
        x.stock(9, 20, 100, false);
        x.stock(1, 0, 100, false);
        check.due("20 is taken", x.run(), 20 * 9 + 80);
        GradingMixes y = new GradingMixes();
        y.stock(9, 21, 100, false);
        y.stock(1, 0, 100, false);
        check.due("20 is less than 21", y.run(), 25 * 9 + 75);
        GradingMixes last = new GradingMixes();
        last.stock(1, 0, 100, false);
        last.stock(9, 20, 100, false);
        check.due("20 of the last one", last.run(), 80 + 20 * 9);
        GradingMixes lastAbove = new GradingMixes();
        lastAbove.stock(1, 0, 100, false);
        lastAbove.stock(9, 21, 100, false);
        check.due("of the last one 20 is less than 21", lastAbove.run(), 75 + 25 * 9);
    }

    private static void shareToMost() {
        check.begin("terms: to its most");
        GradingMixes x = new GradingMixes();
        x.stock(1, 0, 80, false);
        x.stock(9, 0, 100, false);
        check.due("80 is taken", x.run(), 80 + 20 * 9);
        GradingMixes y = new GradingMixes();
        y.stock(1, 0, 79, false);
        y.stock(9, 0, 100, false);
        check.due("80 is more than 79", y.run(), 75 + 25 * 9);
        GradingMixes last = new GradingMixes();
        last.stock(9, 0, 100, false);
        last.stock(1, 0, 80, false);
        check.due("80 of the last one", last.run(), 20 * 9 + 80);
        GradingMixes lastBelow = new GradingMixes();
        lastBelow.stock(9, 0, 100, false);
        lastBelow.stock(1, 0, 79, false);
        check.due("of the last one 80 is more than 79", lastBelow.run(), 25 * 9 + 75);
    }

    private static void sharesTogether100() {
        check.begin("terms: together 100");
        dueMixes("most 50 and 50", 1, 0, 50, 0, 50);
        dueMixes("most 50 and 49", 0, 0, 50, 0, 49);
        dueMixes("most 50 and 55", 2, 0, 50, 0, 55);
        dueMixes("least 50 and 50", 1, 50, 100, 50, 100);
        dueMixes("least 50 and 51", 0, 50, 100, 51, 100);
        dueMixes("least 50 and 45", 2, 50, 100, 45, 100);
        GradingMixes x = new GradingMixes();
        x.stock(1, 0, 100, false);
        check.due("one stock is all of it", x.count(4), 1);
        GradingMixes y = new GradingMixes();
        y.stock(1, 0, 99, false);
        check.due("one stock that may not be all", y.count(4), 0);
        check.due("no stock at all", new GradingMixes().count(4), 0);
    }

    private static void dueMixes(String name, int mixes, int least0, int most0, int least1, int most1) {
        GradingMixes x = new GradingMixes();
        x.stock(1, least0, most0, false);
        x.stock(1, least1, most1, false);
        check.due(name, x.count(4), mixes);
    }
}
