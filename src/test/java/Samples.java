/** Objects in states that several tests begin with, and small steps that they share. */
final class Samples {
    private Samples() {
    }

    /** As many sieves as asked for, all with the same band. */
    static GradingMixes withSieves(int sieves, int low, int high) {
        GradingMixes x = new GradingMixes();
        for (int i = 0; i < sieves; i++) {
            x.sieve(low, high);
        }
        return x;
    }

    /** As many stocks as asked for, each of which may be all of the mix. */
    static GradingMixes withStocks(int stocks) {
        GradingMixes x = new GradingMixes();
        for (int i = 0; i < stocks; i++) {
            x.stock(1, 0, 100, false);
        }
        return x;
    }

    /** One stock that is all of the mix, and one sieve at which it passes. */
    static GradingMixes withOne(int low, int high, int passing, int off) {
        GradingMixes x = new GradingMixes();
        x.sieve(low, high);
        x.stock(7, 0, 100, false);
        x.passes(0, 0, passing, off);
        return x;
    }

    static void collect(GradingMixes x, String signs) {
        for (int i = 0; i < signs.length(); i++) {
            x.unit(signs.charAt(i));
        }
    }

    /** The band is seen by rule 1, which does not ask for a mix. */
    static void dueBand(Check check, GradingMixes x, int sieve, int low, int high) {
        if (low > 0) {
            check.due("test(" + sieve + ", " + (low - 1) + ") below the band", x.test(sieve, low - 1), 1);
        }
        dueInside(check, x, sieve, low);
        dueInside(check, x, sieve, high);
        if (high < 1000) {
            check.due("test(" + sieve + ", " + (high + 1) + ") above the band", x.test(sieve, high + 1), 1);
        }
    }

    /** Neither rule 1 nor BAD: rules 2 and 3 may fire by what came before. */
    private static void dueInside(Check check, GradingMixes x, int sieve, int value) {
        int rule = x.test(sieve, value);
        check.due("test(" + sieve + ", " + value + ") inside of the band, rule " + rule,
                rule == 0 || rule == 2 || rule == 3, true);
    }

    /**
     * Room is left for more of all, nothing is as it was at first, and everything is at hand: 70 of
     * stock 0, 20 of stock 1 and 10 of stock 2, a batch of it, and four tests, two of which fired.
     */
    static GradingMixes used() {
        GradingMixes x = new GradingMixes();
        x.sieve(200, 600);
        x.sieve(100, 900);
        x.sieve(0, 990);
        x.stock(30, 10, 70, false);
        x.stock(20, 0, 60, true);
        x.stock(90, 10, 40, true);
        for (int stock = 0; stock < 3; stock++) {
            for (int sieve = 0; sieve < 3; sieve++) {
                x.passes(stock, sieve, 300 + 40 * stock + 30 * sieve, 5 + stock + 2 * sieve);
            }
        }
        x.cap(30);
        x.step(10);
        x.limit(70);
        x.water(0, 33);
        x.water(1, 44);
        x.water(2, 55);
        x.run();
        x.batch(1234);
        x.test(0, 700);
        x.test(1, 300);
        x.test(1, 371);
        x.test(2, 400);
        collect(x, "1-2,");
        return x;
    }

    /** Six sieves, four stocks, 60 signs and 100 tests: there is no room for one more of any. */
    static GradingMixes full() {
        GradingMixes x = withSieves(6, 100, 800);
        for (int stock = 0; stock < 4; stock++) {
            x.stock(10 + stock, 5, 80, stock % 2 == 1);
            for (int sieve = 0; sieve < 6; sieve++) {
                x.passes(stock, sieve, 400 + 10 * stock + sieve, 7);
            }
        }
        x.run();
        x.batch(777);
        for (int i = 0; i < 100; i++) {
            x.test(i % 6, i % 11 == 0 ? 50 : 405);
        }
        collect(x, "100-200,300-400,500-600,1-2,3-4,5-6,7-8,9-10,11-12,13-14,15-");
        return x;
    }

    /** No mix keeps all; the nearest one is at hand, with a batch and a test that fired. */
    static GradingMixes missing() {
        GradingMixes x = withOne(500, 600, 490, 10);
        x.stock(3, 20, 100, true);
        x.passes(1, 0, 450, 5);
        x.near();
        x.batch(99);
        x.test(0, 499);
        return x;
    }
}
