/** For each promise of the document: ordinary inputs, the edges that it names, and wrong inputs. */
public final class PromisesTest {
    private static final int BAD = GradingMixes.BAD;
    private static final int MIN = Integer.MIN_VALUE;
    private static final int MAX = Integer.MAX_VALUE;
    private static final Check check = new Check();

    public static void main(String[] args) {
        newObject();
        sieve();
        band();
        stock();
        passes();
        cap();
        step();
        unit();
        readBands();
        readWrongSigns();
        readKeepsAndForgets();
        whatForgets();
        whatDoesNotForget();
        run();
        near();
        alikeMixes();
        share();
        told();
        cost();
        lonely();
        worth();
        water();
        batch();
        mass();
        limit();
        testRuleOne();
        testRuleTwo();
        testRuleThree();
        testRoom();
        fired();
        count();
        check.end();
    }

    /** Two sieves and two stocks; a mix is at hand: 60 of stock 0 and 40 of stock 1, for 5200. */
    private static GradingMixes withMix() {
        GradingMixes x = new GradingMixes();
        x.sieve(100, 510);
        x.sieve(0, 1000);
        x.stock(60, 0, 60, false);
        x.stock(40, 40, 100, true);
        x.passes(0, 0, 300, 50);
        x.passes(1, 0, 700, 50);
        x.passes(0, 1, 10, 20);
        x.passes(1, 1, 990, 20);
        check.due("run() of the setup", x.run(), 60 * 60 + 40 * 40);
        check.due("share(0) of the setup", x.share(0), 60);
        return x;
    }

    private static void spell(GradingMixes x, String text) {
        for (int i = 0; i < text.length(); i++) {
            check.due("unit of " + text, x.unit(text.charAt(i)), true);
        }
    }

    private static void dueRead(GradingMixes x, String text, int want) {
        spell(x, text);
        check.due("read() of \"" + text + "\"", x.read(), want);
    }

    private static void newObject() {
        check.begin("promise 1");
        GradingMixes x = new GradingMixes();
        for (int what = 0; what <= 5; what++) {
            check.due("count " + what, x.count(what), 0);
        }
        check.due("run", x.run(), BAD);
        check.due("near", x.near(), BAD);
        check.due("cost", x.cost(), BAD);
        check.due("share", x.share(0), BAD);
        check.due("told", x.told(0, 0), BAD);
        check.due("lonely", x.lonely(0), BAD);
        check.due("worth", x.worth(0, true, 0), BAD);
        check.due("batch", x.batch(0), BAD);
        check.due("mass", x.mass(0, false), BAD);
        check.due("fired", x.fired(0, 0), BAD);
        check.due("test", x.test(0, 0), BAD);
        check.due("read", x.read(), -1);
        check.due("water", x.water(0, 0), BAD);
        check.due("cap at first", x.cap(100), 100);
        check.due("step at first", x.step(5), 5);
        check.due("limit at first", x.limit(50), 50);
        check.due("BAD", BAD, -1);
    }

    private static void sieve() {
        check.begin("promise 2");
        GradingMixes x = new GradingMixes();
        check.due("low below 0", x.sieve(-1, 10), BAD);
        check.due("low above high", x.sieve(11, 10), BAD);
        check.due("high above 1000", x.sieve(0, 1001), BAD);
        check.due("least numbers", x.sieve(MIN, MIN), BAD);
        check.due("all numbers", x.sieve(MIN, MAX), BAD);
        check.due("turned round", x.sieve(MAX, MIN), BAD);
        check.due("none is added", x.count(0), 0);
        check.due("whole range", x.sieve(0, 1000), 0);
        check.due("at 0", x.sieve(0, 0), 1);
        check.due("at 1000", x.sieve(1000, 1000), 2);
        check.due("ordinary", x.sieve(200, 400), 3);
        Samples.dueBand(check, x, 3, 200, 400);
        check.due("fifth", x.sieve(1, 2), 4);
        check.due("sixth", x.sieve(1, 2), 5);
        check.due("seventh", x.sieve(1, 2), BAD);
        check.due("six there are", x.count(0), 6);
    }

    private static void band() {
        check.begin("promise 3");
        GradingMixes x = new GradingMixes();
        check.due("no sieve", x.band(0, 0, 1000), false);
        x.sieve(10, 20);
        x.sieve(30, 40);
        check.due("ordinary", x.band(1, 50, 60), true);
        Samples.dueBand(check, x, 1, 50, 60);
        Samples.dueBand(check, x, 0, 10, 20);
        check.due("sieve -1", x.band(-1, 0, 1), false);
        check.due("sieve 2", x.band(2, 0, 1), false);
        check.due("low below 0", x.band(0, -1, 1), false);
        check.due("low above high", x.band(0, 2, 1), false);
        check.due("high above 1000", x.band(0, 2, 1001), false);
        check.due("refused ones change nothing", x.count(2), 8);
        check.due("edges", x.band(0, 0, 1000), true);
        check.due("low is high", x.band(0, 7, 7), true);
        Samples.dueBand(check, x, 0, 7, 7);
    }

    private static void stock() {
        check.begin("promise 4");
        GradingMixes x = new GradingMixes();
        check.due("price below 0", x.stock(-1, 0, 100, false), BAD);
        check.due("price above 100000", x.stock(100001, 0, 100, false), BAD);
        check.due("least below 0", x.stock(1, -1, 100, false), BAD);
        check.due("most above 100", x.stock(1, 0, 101, false), BAD);
        check.due("least above most", x.stock(1, 51, 50, false), BAD);
        check.due("far off", x.stock(MIN, MIN, MAX, true), BAD);
        check.due("none is added", x.count(1), 0);
        check.due("dearest", x.stock(100000, 100, 100, true), 0);
        check.due("its cost", x.run(), 10000000);
        check.due("price 0", x.stock(0, 0, 0, false), 1);
        check.due("third", x.stock(1, 0, 0, false), 2);
        check.due("fourth", x.stock(1, 0, 100, false), 3);
        check.due("fifth", x.stock(1, 0, 100, false), BAD);
        check.due("four there are", x.count(1), 4);
        leastAndMost();
    }

    private static void leastAndMost() {
        GradingMixes x = new GradingMixes();
        x.stock(1, 11, 29, false);
        x.stock(2, 0, 80, false);
        check.due("only 20 and 25 lie from least to most", x.count(4), 2);
        check.due("cheapest", x.run(), 25 + 2 * 75);
        check.due("its share", x.share(0), 25);
        GradingMixes y = new GradingMixes();
        y.stock(1, 0, 99, false);
        check.due("one stock that may not be all", y.count(4), 0);
        check.due("run", y.run(), BAD);
        check.due("near", y.near(), BAD);
    }

    private static void passes() {
        check.begin("promise 5");
        GradingMixes x = new GradingMixes();
        x.sieve(0, 1000);
        x.stock(1, 0, 100, false);
        x.run();
        check.due("0 at first", x.told(0, 0), 0);
        check.due("0 off at first", x.told(0, 2), 0);
        check.due("ordinary", x.passes(0, 0, 400, 30), true);
        x.run();
        check.due("middle", x.told(0, 0), 40000);
        check.due("lower end", x.told(0, 1), 37000);
        check.due("upper end", x.told(0, 2), 43000);
        check.due("edges", x.passes(0, 0, 1000, 300), true);
        x.run();
        check.due("upper end is cut", x.told(0, 2), 100000);
        check.due("lower end is not", x.told(0, 1), 70000);
        check.due("other edge", x.passes(0, 0, 0, 300), true);
        x.run();
        check.due("lower end is cut", x.told(0, 1), 0);
        check.due("upper end is not", x.told(0, 2), 30000);
        check.due("no stock", x.passes(1, 0, 1, 1), false);
        check.due("stock -1", x.passes(-1, 0, 1, 1), false);
        check.due("no sieve", x.passes(0, 1, 1, 1), false);
        check.due("sieve -1", x.passes(0, -1, 1, 1), false);
        check.due("passing -1", x.passes(0, 0, -1, 1), false);
        check.due("passing 1001", x.passes(0, 0, 1001, 1), false);
        check.due("off -1", x.passes(0, 0, 1, -1), false);
        check.due("off 301", x.passes(0, 0, 1, 301), false);
        check.due("refused ones change nothing", x.told(0, 2), 30000);
    }

    private static void cap() {
        check.begin("promise 6");
        GradingMixes x = new GradingMixes();
        x.stock(1, 0, 100, true);
        x.stock(1, 0, 100, true);
        x.stock(2, 0, 100, false);
        check.due("below 0", x.cap(-1), BAD);
        check.due("above 100", x.cap(101), BAD);
        check.due("100 at first", x.cap(40), 100);
        check.due("what it was", x.cap(40), 40);
        check.due("all old ones together", x.run(), 40 + 60 * 2);
        check.due("less of the first", x.share(0), 0);
        check.due("second", x.share(1), 40);
        check.due("mixes with at most 40 old", x.count(4), 45);
        check.due("0 is taken", x.cap(0), 40);
        check.due("no old ones", x.count(4), 1);
        check.due("100 is taken", x.cap(100), 0);
        check.due("all mixes", x.count(4), 231);
    }

    private static void step() {
        check.begin("promise 7");
        GradingMixes x = new GradingMixes();
        x.stock(1, 0, 100, false);
        x.stock(1, 0, 100, false);
        int[] steps = {1, 2, 4, 5, 10, 20, 25, 50, 100};
        int before = 5;
        int next = 0;
        for (int percent = -2; percent <= 202; percent++) {
            boolean taken = next < steps.length && steps[next] == percent;
            check.due("step " + percent, x.step(percent), taken ? before : BAD);
            if (taken) {
                before = percent;
                next++;
                check.due("mixes at step " + percent, x.count(4), 100 / percent + 1);
            }
        }
        check.due("least number", x.step(MIN), BAD);
        check.due("greatest number", x.step(MAX), BAD);
        finestStep();
    }

    private static void finestStep() {
        GradingMixes x = new GradingMixes();
        for (int i = 0; i < 4; i++) {
            x.stock(i, 0, 100, false);
        }
        x.step(1);
        check.due("most mixes that there can be", x.count(4), 176851);
        check.due("without sieves all keep", x.count(5), 176851);
    }

    private static void unit() {
        check.begin("promise 8");
        GradingMixes x = new GradingMixes();
        x.sieve(0, 1000);
        check.due("31", x.unit(31), false);
        check.due("127", x.unit(127), false);
        check.due("-1", x.unit(-1), false);
        check.due("of 16 bits", x.unit(65536 + '1'), false);
        check.due("refused ones are not collected", x.read(), -1);
        spell(x, "1-2");
        check.due("32", x.unit(32), true);
        check.due("refused among others", x.unit(31), false);
        check.due("126", x.unit(126), true);
        check.due("the blank is wrong", x.read(), -4);
        for (int i = 0; i < 60; i++) {
            check.due("sign " + i, x.unit(i % 2 == 0 ? 126 : 32), true);
        }
        check.due("no room", x.unit('1'), false);
        check.due("read with 60", x.read(), -1);
        check.due("room again", x.unit('1'), true);
    }

    private static void readBands() {
        check.begin("promise 9, bands");
        GradingMixes x = new GradingMixes();
        dueRead(x, "1-2", -1);
        dueRead(x, "5", -1);
        dueRead(x, "5-", -1);
        dueRead(x, "12345", -1);
        for (int i = 0; i < 6; i++) {
            x.sieve(500, 500);
        }
        dueRead(x, "3-7", 1);
        Samples.dueBand(check, x, 0, 3, 7);
        Samples.dueBand(check, x, 1, 500, 500);
        dueRead(x, "0-1000,1000-1000,0-0,0001-0020,12-345,9-9", 6);
        Samples.dueBand(check, x, 0, 0, 1000);
        Samples.dueBand(check, x, 1, 1000, 1000);
        Samples.dueBand(check, x, 2, 0, 0);
        Samples.dueBand(check, x, 3, 1, 20);
        Samples.dueBand(check, x, 4, 12, 345);
        Samples.dueBand(check, x, 5, 9, 9);
        check.due("what was collected is gone", x.read(), -1);
        dueRead(x, "1-2,1-2,1-2,1-2,1-2,1-2,1-2", -25);
        dueRead(x, "1-2,1-2,1-2,1-2,1-2,1-2,12", -25);
        dueRead(x, "0000-1000,0000-1000,0000-1000,0000-1000,0000-1000,0000-1000", 6);
    }

    private static void readWrongSigns() {
        check.begin("promise 9, wrong signs");
        GradingMixes x = new GradingMixes();
        x.sieve(0, 1000);
        x.sieve(0, 1000);
        dueRead(x, "", -1);
        dueRead(x, "-", -1);
        dueRead(x, ",", -1);
        dueRead(x, "1", -2);
        dueRead(x, "1,", -2);
        dueRead(x, "1-", -3);
        dueRead(x, "1--2", -3);
        dueRead(x, "1-,", -3);
        dueRead(x, "1 -2", -2);
        dueRead(x, "1- 2", -3);
        dueRead(x, "1-2 ", -4);
        dueRead(x, "1-2-3", -4);
        dueRead(x, "1-2,", -5);
        dueRead(x, "1-2,,", -5);
        dueRead(x, "1-2, 3-4", -5);
        dueRead(x, "1-2;3-4", -4);
        dueRead(x, "00001-2", -5);
        dueRead(x, "1-00002", -1);
        dueRead(x, "0-00002", -7);
        dueRead(x, "1-1000,0-00010", -14);
        dueRead(x, "1-1001", -1);
        dueRead(x, "1-12345", -1);
        dueRead(x, "2-1", -1);
        dueRead(x, "2-1x", -1);
        dueRead(x, "1001-1001", -1);
        dueRead(x, "1-2,9-8", -5);
        dueRead(x, "1-2,3-1001,x", -5);
        dueRead(x, "1-2,3-4,5-6", -9);
        dueRead(x, "1-2,3-4,", -9);
        dueRead(x, "1-2,3-4,x", -9);
        dueRead(x, "1-2,3-4.", -8);
        dueRead(x, "1/2", -2);
        dueRead(x, ":-2", -1);
        dueRead(x, "/-2", -1);
        // Whether a band may be is known when both its numbers stand: the sign that breaks it is wrong before.
        dueRead(x, "12345-1", -5);
        dueRead(x, "2000-x", -6);
        dueRead(x, "1-2,3-4", 2);
        dueRead(x, "1", -2);
        dueRead(x, "1-2", 1);
        dueRead(x, "1-", -3);
        // That there is no sieve is known at its first digit, whatever is wrong behind it.
        dueRead(x, "1-2,3-4,5", -9);
        dueRead(x, "1-2,3-4,5x", -9);
        dueRead(x, "1-2,3-4,5-", -9);
        dueRead(x, "1-2,3-4,5-x", -9);
        dueRead(x, "1-2,3-4,12345-6", -9);
        // What is wrong before it still comes first.
        dueRead(x, "1-2,3x4,5-6", -6);
        dueRead(x, "1-2,4-3,5", -5);
    }

    private static void readKeepsAndForgets() {
        check.begin("promise 9, what stays");
        GradingMixes x = withMix();
        x.batch(100);
        x.test(0, 200);
        dueRead(x, "0-1000,5-4", -8);
        check.due("mix stays", x.share(0), 60);
        check.due("batch stays", x.mass(0, false), 60);
        check.due("tests stay", x.count(2), 1);
        check.due("bands stay", x.test(0, 511), 1);
        check.due("what was collected is gone", x.read(), -1);
        dueRead(x, "0-1000", 1);
        check.due("mix is gone", x.share(0), BAD);
        check.due("batch is gone", x.mass(0, false), BAD);
        check.due("tests are gone", x.count(2), 0);
        check.due("fired ones are gone", x.count(3), 0);
        check.due("band is new", x.test(0, 511), 0);
        check.due("cheaper with the new band", x.run(), 4000);
    }

    private interface Change {
        boolean done(GradingMixes x);
    }

    private static void dueChange(String name, boolean forgets, Change change) {
        GradingMixes x = withMix();
        x.batch(100);
        x.test(0, 511);
        x.test(0, 500);
        x.unit('9');
        check.due(name + " is done", change.done(x), true);
        check.due("cost after " + name, x.cost(), forgets ? BAD : 5200);
        check.due("share after " + name, x.share(0), forgets ? BAD : 60);
        check.due("told after " + name, x.told(0, 0), forgets ? BAD : 46000);
        check.due("batch after " + name, x.mass(1, true), forgets ? BAD : 40);
        check.due("tests after " + name, x.count(2), forgets ? 0 : 2);
        check.due("fired after " + name, x.count(3), forgets ? 0 : 1);
        check.due("fired(0, 0) after " + name, x.fired(0, 0), forgets ? BAD : 0);
        check.due("one sign after " + name, x.read(), -2);
    }

    private static void whatForgets() {
        check.begin("promises 2 to 7, what they take with them");
        dueChange("sieve", true, x -> x.sieve(0, 1000) == 2);
        dueChange("band", true, x -> x.band(0, 100, 510));
        dueChange("stock", true, x -> x.stock(0, 0, 0, false) == 2);
        dueChange("passes", true, x -> x.passes(0, 0, 300, 50));
        dueChange("cap", true, x -> x.cap(100) == 100);
        dueChange("step", true, x -> x.step(5) == 5);
    }

    private static void whatDoesNotForget() {
        check.begin("what takes nothing with it");
        dueChange("refused sieve", false, x -> x.sieve(2, 1) == BAD);
        dueChange("refused band", false, x -> !x.band(2, 0, 1));
        dueChange("refused stock", false, x -> x.stock(0, 0, 101, false) == BAD);
        dueChange("refused passes", false, x -> !x.passes(0, 2, 0, 0));
        dueChange("refused cap", false, x -> x.cap(101) == BAD);
        dueChange("refused step", false, x -> x.step(3) == BAD);
        dueChange("unit", false, x -> x.unit(' '));
        dueChange("refused unit", false, x -> !x.unit(127));
        dueChange("worth", false, x -> x.worth(0, true, 500) == 1200);
        dueChange("lonely", false, x -> x.lonely(0) == BAD);
        dueChange("water", false, x -> x.water(1, 300) == 0);
        dueChange("refused batch", false, x -> x.batch(-1) == BAD);
        dueChange("limit", false, x -> x.limit(1) == 50);
        dueChange("refused test", false, x -> x.test(2, 0) == BAD);
        dueChange("count", false, x -> x.count(5) == 1);
    }

    private static void run() {
        check.begin("promise 10");
        GradingMixes x = new GradingMixes();
        check.due("no stocks", x.run(), BAD);
        x.stock(7, 0, 100, false);
        x.stock(5, 0, 100, false);
        check.due("no sieves", x.run(), 500);
        x.sieve(300, 700);
        check.due("none that keeps", x.run(), BAD);
        check.due("nothing at hand", x.cost(), BAD);
        x.passes(0, 0, 500, 100);
        x.passes(1, 0, 900, 100);
        check.due("upper end is 70000 at 75 to 25", x.run(), 75 * 7 + 25 * 5);
        check.due("share", x.share(1), 25);
        check.due("exactly at the band's end", x.told(0, 2), 70000);
        x.band(0, 300, 699);
        check.due("one below", x.run(), 80 * 7 + 20 * 5);
        x.band(0, 400, 600);
        check.due("both ends are just kept", x.run(), 700);
        x.band(0, 401, 600);
        check.due("near", x.near(), 100);
        x.batch(10);
        check.due("there is none", x.run(), BAD);
        check.due("what was at hand stays", x.cost(), 700);
        check.due("its batch stays", x.mass(0, false), 10);
    }

    private static void near() {
        check.begin("promise 11");
        GradingMixes x = new GradingMixes();
        check.due("no stocks", x.near(), BAD);
        x.stock(9, 0, 100, false);
        x.stock(1, 0, 100, false);
        x.sieve(500, 500);
        x.sieve(0, 100);
        x.passes(0, 0, 500, 10);
        x.passes(1, 0, 950, 10);
        x.passes(0, 1, 200, 0);
        check.due("misses least: all of stock 0 misses 12000", x.near(), 12000);
        check.due("share", x.share(0), 100);
        check.due("both ends count", x.told(0, 3), 2000);
        check.due("other sieve", x.told(1, 3), 10000);
        x.passes(1, 0, 500, 10);
        x.passes(1, 1, 200, 0);
        check.due("now all miss alike: the cheapest one", x.near(), 12000);
        check.due("share", x.share(0), 0);
        nearestBeforeCheapest();
        GradingMixes y = withMix();
        check.due("nearest is the best if there is one", y.near(), 0);
        check.due("cost", y.cost(), 5200);
        y.cap(39);
        check.due("no mix at all", y.near(), BAD);
        check.due("none at hand", y.cost(), BAD);
    }

    private static void nearestBeforeCheapest() {
        GradingMixes x = new GradingMixes();
        x.sieve(1000, 1000);
        x.stock(1, 0, 100, false);
        x.stock(9, 0, 100, false);
        x.passes(1, 0, 900, 0);
        check.due("the dearest misses least", x.near(), 10000);
        dueShares(x, 0, 100);
        x.passes(0, 0, 950, 0);
        check.due("the cheapest misses least", x.near(), 5000);
        dueShares(x, 100, 0);
    }

    private static void alikeMixes() {
        check.begin("promises 10 and 11, mixes that are alike");
        GradingMixes x = new GradingMixes();
        for (int i = 0; i < 4; i++) {
            x.stock(3, 0, i == 3 ? 30 : 45, false);
        }
        check.due("run", x.run(), 300);
        dueShares(x, 0, 25, 45, 30);
        x.sieve(1000, 1000);
        check.due("near", x.near(), 100000);
        dueShares(x, 0, 25, 45, 30);
        x.passes(2, 0, 7, 0);
        check.due("more of stock 2 misses less", x.near(), 100000 - 45 * 7);
        dueShares(x, 0, 25, 45, 30);
        x.passes(1, 0, 7, 0);
        check.due("of these the first is least", x.near(), 100000 - 90 * 7);
        dueShares(x, 0, 45, 45, 10);
    }

    private static void dueShares(GradingMixes x, int... shares) {
        for (int i = 0; i < shares.length; i++) {
            check.due("share(" + i + ")", x.share(i), shares[i]);
        }
    }

    private static void share() {
        check.begin("promise 12");
        GradingMixes x = withMix();
        dueShares(x, 60, 40, BAD, BAD, BAD);
        check.due("stock -1", x.share(-1), BAD);
        check.due("least number", x.share(MIN), BAD);
        check.due("greatest number", x.share(MAX), BAD);
        x.step(5);
        check.due("no mix", x.share(0), BAD);
    }

    private static void told() {
        check.begin("promise 13");
        GradingMixes x = withMix();
        check.due("middle", x.told(0, 0), 60 * 300 + 40 * 700);
        check.due("lower end", x.told(0, 1), 60 * 250 + 40 * 650);
        check.due("upper end", x.told(0, 2), 60 * 350 + 40 * 750);
        check.due("miss", x.told(0, 3), 0);
        check.due("cut middle", x.told(1, 0), 60 * 10 + 40 * 990);
        check.due("cut lower end", x.told(1, 1), 40 * 970);
        check.due("cut upper end", x.told(1, 2), 60 * 30 + 40 * 1000);
        check.due("miss of the other", x.told(1, 3), 0);
        check.due("what -1", x.told(0, -1), BAD);
        check.due("what 4", x.told(0, 4), BAD);
        check.due("sieve -1", x.told(-1, 0), BAD);
        check.due("sieve 2", x.told(2, 0), BAD);
        check.due("far off", x.told(MAX, MIN), BAD);
        x.band(0, 460, 460);
        check.due("no mix", x.told(0, 0), BAD);
        check.due("near", x.near(), 46000 - 45000 + 55000 - 46000);
        check.due("misses at both ends", x.told(0, 3), 46000 - 45000 + 55000 - 46000);
        check.due("of those that miss alike the cheapest", x.share(0), 50);
        toldOfMost();
    }

    /** As many sieves and stocks as there can be. */
    private static void toldOfMost() {
        GradingMixes x = new GradingMixes();
        int[] shares = {10, 20, 30, 40};
        for (int share : shares) {
            x.stock(share, share, share, true);
        }
        for (int s = 0; s < 6; s++) {
            x.sieve(100 * s, 1000);
            for (int i = 0; i < 4; i++) {
                x.passes(i, s, 100 * i + s, 2);
            }
        }
        check.due("near", x.near(), (300 - 201) * 100 + (400 - 202) * 100 + (500 - 203) * 100);
        for (int s = 0; s < 6; s++) {
            check.due("middle", x.told(s, 0), 20000 + 100 * s);
            check.due("lower end", x.told(s, 1), 20000 + 100 * s - 200 + 10 * Math.max(0, 2 - s));
            check.due("upper end", x.told(s, 2), 20000 + 100 * s + 200);
            check.due("miss", x.told(s, 3), s < 3 ? 0 : (99 * s - 198) * 100);
        }
    }

    private static void cost() {
        check.begin("promise 14");
        GradingMixes x = withMix();
        check.due("cost", x.cost(), 5200);
        x.near();
        check.due("cost of the nearest", x.cost(), 5200);
        x.stock(0, 0, 0, false);
        check.due("none", x.cost(), BAD);
        GradingMixes free = new GradingMixes();
        free.stock(0, 0, 100, false);
        check.due("run for nothing", free.run(), 0);
        check.due("cost 0", free.cost(), 0);
    }

    private static void lonely() {
        check.begin("promise 15");
        GradingMixes x = new GradingMixes();
        x.sieve(900, 1000);
        x.sieve(0, 100);
        x.sieve(200, 1000);
        x.sieve(301, 1000);
        x.sieve(300, 1000);
        check.due("no mix at all", x.lonely(0), BAD);
        x.stock(1, 0, 100, false);
        x.stock(1, 0, 100, false);
        x.passes(0, 3, 300, 0);
        x.passes(1, 4, 300, 0);
        x.passes(0, 2, 200, 1);
        x.passes(1, 2, 200, 0);
        check.due("first", x.lonely(0), 0);
        check.due("second: 300 is not 301", x.lonely(1), 3);
        check.due("no third", x.lonely(2), BAD);
        check.due("-1", x.lonely(-1), BAD);
        check.due("least number", x.lonely(MIN), BAD);
        check.due("greatest number", x.lonely(MAX), BAD);
        x.passes(0, 3, 301, 0);
        check.due("each alone can be kept", x.lonely(1), BAD);
        x.band(0, 0, 1000);
        check.due("none is lonely though no mix keeps all", x.lonely(0), BAD);
        x.band(0, 1, 1000);
        check.due("lonely again", x.lonely(0), 0);
        x.band(0, 0, 1000);
        check.due("no mix keeps all", x.run(), BAD);
        x.cap(100);
        x.stock(1, 1, 1, false);
        check.due("no mix at all any more", x.count(4), 0);
        check.due("then none is told", x.lonely(0), BAD);
    }

    private static void worth() {
        check.begin("promise 16");
        GradingMixes x = withMix();
        x.near();
        check.due("nothing", x.worth(0, true, 0), 0);
        check.due("too little", x.worth(0, true, 19), 0);
        check.due("just enough at the upper end", x.worth(0, true, 20), 100);
        x.passes(0, 0, 200, 0);
        x.passes(1, 0, 500, 0);
        x.band(0, 0, 320);
        check.due("best", x.run(), 5200);
        check.due("14: too little for 55 to 45", x.worth(0, true, 14), 0);
        check.due("15: 55 to 45", x.worth(0, true, 15), 100);
        check.due("180: all of stock 1", x.worth(0, true, 180), 1200);
        check.due("beyond 1000 is 1000", x.worth(0, true, 1000), 1200);
        check.due("low is no help", x.worth(0, false, 1000), 0);
        check.due("other sieve is no help", x.worth(1, true, 1000), 0);
        check.due("by -1", x.worth(0, true, -1), BAD);
        check.due("by 1001", x.worth(0, true, 1001), BAD);
        check.due("sieve -1", x.worth(-1, true, 1), BAD);
        check.due("sieve 2", x.worth(2, true, 1), BAD);
        check.due("what is at hand stays", x.share(0), 60);
        check.due("the band stays", x.run(), 5200);
        lowerWorth();
    }

    private static void lowerWorth() {
        GradingMixes x = new GradingMixes();
        x.sieve(300, 1000);
        check.due("no mix", x.worth(0, false, 1000), BAD);
        x.stock(9, 0, 100, false);
        x.stock(2, 0, 100, false);
        check.due("no best mix, though a wider band has one", x.worth(0, false, 1000), BAD);
        x.passes(0, 0, 300, 0);
        check.due("nothing at hand is needed", x.worth(0, false, 14), 0);
        check.due("15 lower", x.worth(0, false, 15), 5 * 7);
        check.due("299 lower", x.worth(0, false, 299), 95 * 7);
        check.due("300 lower", x.worth(0, false, 300), 700);
        check.due("not beyond 0", x.worth(0, false, 301), 700);
        check.due("not beyond 0", x.worth(0, false, 1000), 700);
        check.due("high is no help", x.worth(0, true, 1000), 0);
        check.due("still nothing at hand", x.cost(), BAD);
        check.due("keeping mixes stay", x.count(5), 1);
    }

    private static void water() {
        check.begin("promise 17");
        GradingMixes x = withMix();
        check.due("0 at first", x.water(0, 300), 0);
        check.due("what it was", x.water(0, 0), 300);
        check.due("what it was", x.water(0, 20), 0);
        check.due("of the other", x.water(1, 30), 0);
        check.due("301", x.water(0, 301), BAD);
        check.due("-1", x.water(0, -1), BAD);
        check.due("stock 2", x.water(2, 1), BAD);
        check.due("stock -1", x.water(-1, 1), BAD);
        check.due("refused ones change nothing", x.water(0, 20), 20);
        x.cap(100);
        check.due("stays with a change", x.water(1, 30), 30);
        x.stock(1, 0, 0, false);
        check.due("of a new stock", x.water(2, 1), 0);
    }

    private static void batch() {
        check.begin("promise 18");
        GradingMixes x = withMix();
        x.water(0, 25);
        x.water(1, 300);
        check.due("100 kilos", x.batch(100), 1 + 12);
        check.due("each stock's water is cut off", x.batch(99), 1 + 12);
        check.due("dry of the first, cut off", x.mass(0, false), 59);
        check.due("dry of the second is the rest", x.mass(1, false), 40);
        check.due("0 kilos", x.batch(0), 0);
        check.due("its mass", x.mass(1, true), 0);
        check.due("1000000 kilos", x.batch(1000000), 15000 + 120000);
        check.due("its mass", x.mass(1, true), 520000);
        check.due("1000001", x.batch(1000001), BAD);
        check.due("-1", x.batch(-1), BAD);
        check.due("least number", x.batch(MIN), BAD);
        check.due("last one stays", x.mass(0, true), 615000);
        x.step(5);
        check.due("no mix", x.batch(100), BAD);
        x.near();
        check.due("by the nearest", x.batch(100), 13);
    }

    private static void mass() {
        check.begin("promise 19");
        GradingMixes x = withMix();
        check.due("no batch", x.mass(0, false), BAD);
        x.water(0, 100);
        x.batch(33);
        check.due("dry 0", x.mass(0, false), 19);
        check.due("wet 0", x.mass(0, true), 20);
        check.due("dry 1", x.mass(1, false), 14);
        check.due("wet 1", x.mass(1, true), 14);
        check.due("stock 2", x.mass(2, false), BAD);
        check.due("stock -1", x.mass(-1, true), BAD);
        x.water(0, 300);
        check.due("as it was then", x.mass(0, true), 20);
        x.run();
        check.due("the mix came", x.mass(0, true), BAD);
        x.batch(33);
        check.due("new water", x.mass(0, true), 24);
        x.near();
        check.due("the mix came by near", x.mass(0, true), BAD);
        x.batch(33);
        x.passes(0, 0, 300, 50);
        check.due("the mix went", x.mass(0, true), BAD);
        x.run();
        check.due("the mix came after it went", x.mass(0, true), BAD);
        manyParts();
    }

    private static void manyParts() {
        GradingMixes x = new GradingMixes();
        int[] shares = {15, 35, 45, 5};
        for (int share : shares) {
            x.stock(1, share, share, false);
        }
        x.run();
        check.due("no water", x.batch(7), 0);
        int[] dry = {1, 2, 3, 1};
        for (int i = 0; i < dry.length; i++) {
            check.due("mass " + i, x.mass(i, false), dry[i]);
        }
    }

    private static void limit() {
        check.begin("promise 20");
        GradingMixes x = new GradingMixes();
        check.due("0", x.limit(0), BAD);
        check.due("-1", x.limit(-1), BAD);
        check.due("1001", x.limit(1001), BAD);
        check.due("50 at first", x.limit(1), 50);
        check.due("1", x.limit(1000), 1);
        check.due("1000", x.limit(7), 1000);
        x.sieve(0, 1000);
        check.due("stays with a change", x.limit(7), 7);
    }

    private static void testRuleOne() {
        check.begin("promise 21, rule 1");
        GradingMixes x = new GradingMixes();
        check.due("no sieve", x.test(0, 5), BAD);
        x.sieve(100, 900);
        check.due("sieve -1", x.test(-1, 5), BAD);
        check.due("sieve 1", x.test(1, 5), BAD);
        check.due("value -1", x.test(0, -1), BAD);
        check.due("value 1001", x.test(0, 1001), BAD);
        check.due("refused ones do not count", x.count(2), 0);
        check.due("0", x.test(0, 0), 1);
        check.due("99", x.test(0, 99), 1);
        check.due("100", x.test(0, 100), 0);
        check.due("900: outside it is not, but it jumps", x.test(0, 900), 3);
        check.due("901: the first rule counts", x.test(0, 901), 1);
        check.due("1000: the first rule counts", x.test(0, 1000), 1);
    }

    private static void testRuleTwo() {
        check.begin("promise 21, rule 2");
        GradingMixes x = new GradingMixes();
        x.limit(1000);
        x.sieve(0, 1000);
        x.sieve(0, 1000);
        x.stock(1, 5, 95, false);
        x.stock(2, 5, 95, false);
        x.passes(0, 0, 500, 0);
        x.passes(1, 0, 519, 0);
        for (int i = 0; i < 5; i++) {
            check.due("no mix at hand", x.test(0, 511), 0);
        }
        check.due("run: the middle is 50095", x.run(), 105);
        check.due("tests before the mix count", x.test(0, 511), 2);
        check.due("10 more is not above", x.test(0, 510), 0);
        dueTests(x, 511, 0, 4);
        check.due("another sieve does not come between", x.test(1, 0), 0);
        check.due("fifth above", x.test(0, 1000), 2);
        dueTests(x, 489, 0, 4);
        check.due("fifth below", x.test(0, 0), 2);
        check.due("10 less is not below", x.test(0, 490), 0);
        dueTests(x, 489, 0, 2);
        check.due("above among those below", x.test(0, 511), 0);
        dueTests(x, 489, 0, 4);
        check.due("fifth below", x.test(0, 489), 2);
        check.due("near() brings a mix too", x.near(), 0);
        x.limit(1);
        check.due("rule 2 is before rule 3", x.test(0, 100), 2);
        x.band(0, 0, 999);
        x.run();
        dueTests(x, 511, 0, 4);
        check.due("rule 1 is before rule 2", x.test(0, 1000), 1);
        check.due("those of rule 1 count", x.test(0, 999), 2);
        x.limit(1000);
        x.band(0, 0, 1000);
        x.run();
        dueTests(x, 489, 0, 4);
        check.due("five are enough", x.test(0, 489), 2);
    }

    private static void dueTests(GradingMixes x, int value, int want, int times) {
        for (int i = 0; i < times; i++) {
            check.due("test(0, " + value + ")", x.test(0, value), want);
        }
    }

    private static void testRuleThree() {
        check.begin("promise 21, rule 3");
        GradingMixes x = new GradingMixes();
        x.sieve(0, 1000);
        x.sieve(0, 1000);
        check.due("first", x.test(0, 500), 0);
        check.due("50 more", x.test(0, 550), 0);
        check.due("51 less", x.test(0, 499), 3);
        check.due("first of another sieve", x.test(1, 0), 0);
        check.due("51 more", x.test(0, 550), 3);
        x.limit(1);
        check.due("1 more", x.test(0, 551), 0);
        check.due("2 more", x.test(0, 553), 3);
        check.due("the same", x.test(0, 553), 0);
        x.limit(1000);
        check.due("all the way", x.test(1, 1000), 0);
        x.limit(50);
        x.band(1, 0, 1000);
        check.due("the one before is gone", x.test(0, 0), 0);
    }

    private static void testRoom() {
        check.begin("promise 21, room");
        GradingMixes x = new GradingMixes();
        x.sieve(0, 0);
        x.sieve(0, 0);
        for (int i = 0; i < 99; i++) {
            check.due("test " + i, x.test(0, 1), 1);
        }
        check.due("hundredth", x.test(1, 1), 1);
        check.due("no room for one more", x.test(1, 1), BAD);
        check.due("nor for the first", x.test(0, 0), BAD);
        check.due("tests", x.count(2), 100);
        check.due("fired", x.count(3), 100);
        check.due("last fired", x.fired(98, 1), 98);
        check.due("sieve of the hundredth", x.fired(99, 0), 1);
        check.due("number of the hundredth", x.fired(99, 1), 0);
        check.due("no more", x.fired(100, 0), BAD);
        x.band(0, 0, 0);
        check.due("room again", x.test(1, 1), 1);
    }

    private static void fired() {
        check.begin("promise 22");
        GradingMixes x = new GradingMixes();
        x.sieve(100, 1000);
        x.sieve(0, 900);
        check.due("none", x.fired(0, 0), BAD);
        x.test(1, 500);
        x.test(0, 99);
        x.test(1, 600);
        x.test(0, 100);
        x.test(1, 901);
        int[][] want = {{0, 0, 1}, {1, 1, 3}, {1, 2, 1}};
        for (int k = 0; k < want.length; k++) {
            for (int what = 0; what < 3; what++) {
                check.due("fired(" + k + ", " + what + ")", x.fired(k, what), want[k][what]);
            }
        }
        check.due("k 3", x.fired(3, 0), BAD);
        check.due("k -1", x.fired(-1, 0), BAD);
        check.due("what 3", x.fired(0, 3), BAD);
        check.due("what -1", x.fired(0, -1), BAD);
        check.due("far off", x.fired(MIN, MAX), BAD);
    }

    private static void count() {
        check.begin("promise 23");
        GradingMixes x = withMix();
        x.test(0, 511);
        x.test(0, 500);
        int[] want = {2, 2, 2, 1, 13, 1};
        for (int what = 0; what < want.length; what++) {
            check.due("count(" + what + ")", x.count(what), want[what]);
        }
        check.due("count(6)", x.count(6), BAD);
        check.due("count(-1)", x.count(-1), BAD);
        check.due("least number", x.count(MIN), BAD);
        check.due("greatest number", x.count(MAX), BAD);
        x.band(0, 0, 1000);
        check.due("mixes that keep all", x.count(5), 13);
    }
}
