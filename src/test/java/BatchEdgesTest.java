/** Promises 17 to 19 and the terms behind them: both sides of each boundary that they name. */
public final class BatchEdgesTest {
    private static final int BAD = GradingMixes.BAD;
    private static final int MIN = Integer.MIN_VALUE;
    private static final int MAX = Integer.MAX_VALUE;
    private static final Check check = new Check();

    public static void main(String[] args) {
        waterFrom0To300();
        waterOfAStockThatIs();
        water0AtFirst();
        waterStays();
        batchFrom0To1000000();
        batchByTheMixAtHand();
        dryIsCutOff();
        dryOfAllUpToAStock();
        dryTogetherIsTheBatch();
        wetIsCutOff();
        waterIsCutOffForEachStock();
        massOfAStockThatIs();
        massNoBatch();
        massOfTheLastBatch();
        massOfTheLastThatWasNotRefused();
        massAsItWasThen();
        massTheMixCame();
        massTheMixDidNotCome();
        massTheMixWent();
        check.end();
    }

    /** A mix at hand with these shares. */
    private static GradingMixes mixOf(int... shares) {
        GradingMixes x = new GradingMixes();
        x.step(1);
        for (int share : shares) {
            x.stock(1, share, share, false);
        }
        check.due("run() of the setup", x.run(), 100);
        return x;
    }

    private static void dueDry(GradingMixes x, int kilos, int... dry) {
        check.due("batch(" + kilos + ")", x.batch(kilos), 0);
        for (int i = 0; i < dry.length; i++) {
            check.due("mass(" + i + ", false) of " + kilos, x.mass(i, false), dry[i]);
            check.due("mass(" + i + ", true) of " + kilos, x.mass(i, true), dry[i]);
        }
    }

    private static void waterFrom0To300() {
        check.begin("promise 17: 0 .. 300");
        GradingMixes x = mixOf(100);
        x.water(0, 17);
        check.due("water(0, -1)", x.water(0, -1), BAD);
        check.due("water(0, 301)", x.water(0, 301), BAD);
        check.due("water(0, MIN)", x.water(0, MIN), BAD);
        check.due("water(0, MAX)", x.water(0, MAX), BAD);
        check.due("water(0, 0): it was 17 all the while", x.water(0, 0), 17);
        check.due("none by 0", x.batch(1000), 0);
        check.due("water(0, 300): it was 0", x.water(0, 300), 0);
        check.due("300 by 300", x.batch(1000), 300);
        check.due("water(0, 1): it was 300", x.water(0, 1), 300);
        check.due("1 by 1", x.batch(1000), 1);
    }

    private static void waterOfAStockThatIs() {
        check.begin("promise 17: BAD: none such, the stock");
        for (int stocks = 0; stocks <= 4; stocks++) {
            GradingMixes x = Samples.withStocks(stocks);
            check.due("stock -1 of " + stocks, x.water(-1, 5), BAD);
            for (int i = 0; i < stocks; i++) {
                check.due("stock " + i + " of " + stocks, x.water(i, 5 + i), 0);
            }
            check.due("stock " + stocks + ", one behind the last", x.water(stocks, 5), BAD);
            check.due("stock MIN", x.water(MIN, 5), BAD);
            check.due("stock MAX", x.water(MAX, 5), BAD);
            for (int i = 0; i < stocks; i++) {
                check.due("each has its own", x.water(i, 0), 5 + i);
            }
        }
    }

    private static void water0AtFirst() {
        check.begin("promise 17: 0 at first");
        GradingMixes x = mixOf(60, 40);
        check.due("no water comes", x.batch(1000000), 0);
        check.due("wet is dry", x.mass(0, true), 600000);
        check.due("what it was", x.water(1, 10), 0);
        check.due("now it comes", x.batch(1000), 4);
    }

    private static void waterStays() {
        check.begin("promise 17: what it was, whatever else has changed");
        GradingMixes x = mixOf(100);
        x.water(0, 25);
        x.sieve(0, 1000);
        x.band(0, 1, 1000);
        x.stock(1, 0, 0, false);
        x.passes(0, 0, 5, 0);
        x.cap(50);
        x.step(2);
        Samples.collect(x, "0-1000");
        x.read();
        x.run();
        check.due("water(0, 300)", x.water(0, 300), 25);
        check.due("the mix is not gone by it", x.cost(), 100);
    }

    private static void batchFrom0To1000000() {
        check.begin("promise 18: 0 .. 1,000,000");
        GradingMixes x = mixOf(99, 1);
        x.water(0, 300);
        x.water(1, 300);
        check.due("batch(-1)", x.batch(-1), BAD);
        check.due("batch(1000001)", x.batch(1000001), BAD);
        check.due("batch(MIN)", x.batch(MIN), BAD);
        check.due("batch(MAX)", x.batch(MAX), BAD);
        check.due("there is none yet", x.mass(0, false), BAD);
        check.due("batch(0)", x.batch(0), 0);
        check.due("none of stock 0", x.mass(0, true), 0);
        check.due("batch(1000000)", x.batch(1000000), 300000);
        check.due("dry of stock 0", x.mass(0, false), 990000);
        check.due("wet of stock 0", x.mass(0, true), 1287000);
        check.due("dry of stock 1", x.mass(1, false), 10000);
        check.due("wet of stock 1", x.mass(1, true), 13000);
        check.due("batch(1)", x.batch(1), 0);
        check.due("batch(999999)", x.batch(999999), 296999 + 3000);
    }

    private static void batchByTheMixAtHand() {
        check.begin("promise 18: BAD: no mix at hand");
        GradingMixes x = Samples.withStocks(1);
        check.due("before run()", x.batch(10), BAD);
        check.due("nor one of nothing", x.batch(0), BAD);
        x.run();
        check.due("behind run()", x.batch(10), 0);
        x.step(5);
        check.due("behind a change", x.batch(10), BAD);
        x.near();
        check.due("behind near()", x.batch(10), 0);
    }

    private static void dryIsCutOff() {
        check.begin("terms: the batch times the shares up to it, by 100, cut off");
        GradingMixes x = mixOf(5, 95);
        dueDry(x, 19, 0, 19);
        dueDry(x, 20, 1, 19);
        dueDry(x, 39, 1, 38);
        dueDry(x, 40, 2, 38);
        GradingMixes y = mixOf(1, 99);
        dueDry(y, 99, 0, 99);
        dueDry(y, 100, 1, 99);
        dueDry(y, 199, 1, 198);
        dueDry(y, 999999, 9999, 990000);
        GradingMixes z = mixOf(99, 1);
        dueDry(z, 1, 0, 1);
        dueDry(z, 99, 98, 1);
        dueDry(z, 100, 99, 1);
    }

    private static void dryOfAllUpToAStock() {
        check.begin("terms: of stock after stock as many come as are new by that");
        GradingMixes x = mixOf(15, 35, 45, 5);
        dueDry(x, 0, 0, 0, 0, 0);
        dueDry(x, 1, 0, 0, 0, 1);
        dueDry(x, 2, 0, 1, 0, 1);
        dueDry(x, 6, 0, 3, 2, 1);
        dueDry(x, 7, 1, 2, 3, 1);
        dueDry(x, 20, 3, 7, 9, 1);
        GradingMixes y = mixOf(33, 33, 0, 34);
        dueDry(y, 3, 0, 1, 0, 2);
        dueDry(y, 4, 1, 1, 0, 2);
        GradingMixes z = mixOf(0, 100, 0, 0);
        dueDry(z, 7, 0, 7, 0, 0);
    }

    private static void dryTogetherIsTheBatch() {
        check.begin("terms: the kilos of all stocks are the batch");
        GradingMixes x = mixOf(13, 29, 31, 27);
        for (int kilos = 0; kilos < 100; kilos++) {
            x.batch(kilos);
            int all = 0;
            for (int i = 0; i < 4; i++) {
                all += x.mass(i, false);
            }
            check.due("all of " + kilos, all, kilos);
        }
    }

    private static void wetIsCutOff() {
        check.begin("terms: the dry ones and those times the water, by 1000, cut off");
        GradingMixes x = mixOf(100);
        dueWet(x, 9, 111, 0);
        dueWet(x, 10, 100, 1);
        dueWet(x, 3, 300, 0);
        dueWet(x, 4, 250, 1);
        dueWet(x, 7, 285, 1);
        dueWet(x, 27, 74, 1);
        dueWet(x, 1999, 1, 1);
        dueWet(x, 2000, 1, 2);
        dueWet(x, 0, 300, 0);
        dueWet(x, 999999, 300, 299999);
    }

    private static void dueWet(GradingMixes x, int kilos, int perMille, int water) {
        x.water(0, perMille);
        check.due("batch(" + kilos + ") with " + perMille, x.batch(kilos), water);
        check.due("dry of " + kilos + " with " + perMille, x.mass(0, false), kilos);
        check.due("wet of " + kilos + " with " + perMille, x.mass(0, true), kilos + water);
    }

    private static void waterIsCutOffForEachStock() {
        check.begin("terms, promise 18: what is cut off of one stock is not made up by another");
        GradingMixes x = mixOf(50, 50);
        x.water(0, 100);
        x.water(1, 100);
        check.due("half a kilo and half a kilo", x.batch(10), 0);
        check.due("nine tenths twice", x.batch(18), 0);
        check.due("one and one", x.batch(20), 2);
        check.due("1.9 and 1.9", x.batch(38), 2);
    }

    private static void massOfAStockThatIs() {
        check.begin("promise 19: BAD: none such, the stock");
        for (int stocks = 1; stocks <= 4; stocks++) {
            GradingMixes x = Samples.withStocks(stocks);
            x.run();
            x.batch(40);
            for (int wet = 0; wet < 2; wet++) {
                check.due("stock -1 of " + stocks, x.mass(-1, wet == 1), BAD);
                for (int i = 0; i < stocks; i++) {
                    check.due("stock " + i + " of " + stocks, x.mass(i, wet == 1), i == stocks - 1 ? 40 : 0);
                }
                check.due("stock " + stocks + ", one behind the last", x.mass(stocks, wet == 1), BAD);
                check.due("stock MIN", x.mass(MIN, wet == 1), BAD);
                check.due("stock MAX", x.mass(MAX, wet == 1), BAD);
            }
        }
    }

    private static void massNoBatch() {
        check.begin("promise 19: BAD: no batch");
        GradingMixes x = mixOf(100);
        check.due("dry before", x.mass(0, false), BAD);
        check.due("wet before", x.mass(0, true), BAD);
        x.batch(0);
        check.due("dry behind a batch of 0", x.mass(0, false), 0);
        check.due("wet behind a batch of 0", x.mass(0, true), 0);
    }

    private static void massOfTheLastBatch() {
        check.begin("promise 19: of the last batch");
        GradingMixes x = mixOf(60, 40);
        dueDry(x, 10, 6, 4);
        dueDry(x, 100, 60, 40);
        dueDry(x, 0, 0, 0);
        dueDry(x, 5, 3, 2);
    }

    private static void massOfTheLastThatWasNotRefused() {
        check.begin("promise 19: of the last batch that was not refused");
        GradingMixes x = mixOf(60, 40);
        x.water(0, 100);
        x.batch(50);
        check.due("batch(-1)", x.batch(-1), BAD);
        check.due("dry", x.mass(0, false), 30);
        check.due("batch(1000001)", x.batch(1000001), BAD);
        check.due("dry", x.mass(0, false), 30);
        check.due("wet", x.mass(0, true), 33);
        check.due("of the other", x.mass(1, true), 20);
    }

    private static void massAsItWasThen() {
        check.begin("promise 19: the wet ones, as they were then");
        GradingMixes x = mixOf(100);
        x.water(0, 100);
        x.batch(50);
        x.water(0, 300);
        check.due("wet by the water of then", x.mass(0, true), 55);
        check.due("dry", x.mass(0, false), 50);
        x.batch(50);
        check.due("wet by the water of now", x.mass(0, true), 65);
    }

    private static void massTheMixCame() {
        check.begin("promise 19: BAD: the mix came since");
        GradingMixes x = mixOf(100);
        x.batch(50);
        check.due("before", x.mass(0, false), 50);
        x.run();
        check.due("behind run(), dry", x.mass(0, false), BAD);
        check.due("behind run(), wet", x.mass(0, true), BAD);
        x.batch(40);
        check.due("of the new batch", x.mass(0, false), 40);
        x.near();
        check.due("behind near(), dry", x.mass(0, false), BAD);
        check.due("behind near(), wet", x.mass(0, true), BAD);
    }

    private static void massTheMixDidNotCome() {
        check.begin("promise 19: no mix came by a run() that found none");
        GradingMixes x = Samples.missing();
        check.due("before", x.mass(0, false), 79);
        check.due("run()", x.run(), BAD);
        check.due("behind run()", x.mass(0, false), 79);
        check.due("worth", x.worth(0, false, 1000), BAD);
        check.due("behind worth", x.mass(1, false), 20);
    }

    private static void massTheMixWent() {
        check.begin("promise 19: BAD: the mix went since");
        GradingMixes x = mixOf(100);
        x.batch(50);
        check.due("cap(101) is refused", x.cap(101), BAD);
        check.due("it is still there", x.mass(0, false), 50);
        x.cap(100);
        check.due("behind cap(100), dry", x.mass(0, false), BAD);
        check.due("behind cap(100), wet", x.mass(0, true), BAD);
        x.run();
        check.due("it does not come again with the mix", x.mass(0, false), BAD);
    }
}
