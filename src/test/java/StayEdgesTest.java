/** What stays and what is gone after a refused call and after one that is not, and how long an object is used. */
public final class StayEdgesTest {
    private static final int BAD = GradingMixes.BAD;
    private static final int MIN = Integer.MIN_VALUE;
    private static final int MAX = Integer.MAX_VALUE;
    private static final Check check = new Check();

    private interface State {
        GradingMixes make();
    }

    private interface Question {
        void ask(GradingMixes x, StringBuilder seen);
    }

    private interface Call {
        boolean isAsDue(GradingMixes x);
    }

    public static void main(String[] args) {
        refusedSieve();
        refusedBand();
        refusedStock();
        refusedPasses();
        refusedCap();
        refusedStep();
        refusedUnit();
        refusedRead();
        refusedRunAndNear();
        refusedQuestions();
        refusedWaterAndLimit();
        refusedBatch();
        refusedTest();
        refusedForWantOfRoom();
        questionsChangeNothing();
        takenSieve();
        takenBand();
        takenStock();
        takenPasses();
        takenCap();
        takenStep();
        takenRead();
        takenUnit();
        takenRunAndNear();
        takenWater();
        takenBatch();
        takenLimit();
        takenTest();
        changesAreSeenAtOnce();
        usedFor512Calls();
        usedFor512DearCalls();
        check.end();
    }

    /** Each asks of one part of the state, so that no question hides what another one would show. */
    private static final Question[] QUESTIONS = {
        StayEdgesTest::askOfMix, StayEdgesTest::askOfBatch, StayEdgesTest::askOfFired, StayEdgesTest::askOfCounts,
        StayEdgesTest::askOfLonely, StayEdgesTest::askOfWorth, (x, seen) -> seen.append(x.read()),
        StayEdgesTest::askOfTests, StayEdgesTest::askOfWater, (x, seen) -> seen.append(x.limit(9)),
        (x, seen) -> seen.append(x.cap(9)), (x, seen) -> seen.append(x.step(20)), StayEdgesTest::askOfFound
    };

    /** The questions whose answers do not hang on the mix at hand, on tests and on signs. */
    private static final Question[] SETTINGS = {
        StayEdgesTest::askOfLonely, StayEdgesTest::askOfWorth, StayEdgesTest::askOfWater,
        (x, seen) -> seen.append(x.limit(9)), (x, seen) -> seen.append(x.cap(9)),
        (x, seen) -> seen.append(x.step(20)), StayEdgesTest::askOfFound
    };

    private static void askOfMix(GradingMixes x, StringBuilder seen) {
        seen.append(" cost ").append(x.cost());
        for (int i = 0; i < 4; i++) {
            seen.append(" share ").append(x.share(i));
        }
        for (int sieve = 0; sieve < 6; sieve++) {
            for (int what = 0; what <= 3; what++) {
                seen.append(" told ").append(x.told(sieve, what));
            }
        }
    }

    private static void askOfBatch(GradingMixes x, StringBuilder seen) {
        for (int i = 0; i < 4; i++) {
            seen.append(" mass ").append(x.mass(i, false)).append(' ').append(x.mass(i, true));
        }
    }

    private static void askOfFired(GradingMixes x, StringBuilder seen) {
        for (int k = 0; k < 30; k++) {
            for (int what = 0; what <= 2; what++) {
                seen.append(" fired ").append(x.fired(k, what));
            }
        }
    }

    private static void askOfCounts(GradingMixes x, StringBuilder seen) {
        for (int what = 0; what <= 5; what++) {
            seen.append(" count ").append(x.count(what));
        }
    }

    private static void askOfLonely(GradingMixes x, StringBuilder seen) {
        for (int k = 0; k < 6; k++) {
            seen.append(" lonely ").append(x.lonely(k));
        }
    }

    private static void askOfWorth(GradingMixes x, StringBuilder seen) {
        for (int sieve = 0; sieve < 6; sieve++) {
            seen.append(" worth ").append(x.worth(sieve, true, 100)).append(' ').append(x.worth(sieve, false, 100));
        }
    }

    private static void askOfTests(GradingMixes x, StringBuilder seen) {
        for (int sieve = 0; sieve < 6; sieve++) {
            seen.append(" test ").append(x.test(sieve, 405)).append(' ').append(x.test(sieve, 480));
        }
    }

    private static void askOfWater(GradingMixes x, StringBuilder seen) {
        for (int i = 0; i < 4; i++) {
            seen.append(" water ").append(x.water(i, 9));
        }
    }

    /** The bands, the stocks and what passes are seen by the mixes that are found. */
    private static void askOfFound(GradingMixes x, StringBuilder seen) {
        seen.append(" near ").append(x.near());
        askOfMix(x, seen);
        seen.append(" run ").append(x.run());
        x.cap(100);
        x.step(5);
        seen.append(" near ").append(x.near());
        askOfMix(x, seen);
        seen.append(" mixes ").append(x.count(4)).append(' ').append(x.count(5));
    }

    private static void dueSame(String name, State state, Call call) {
        dueSameAnswers(name, state, call, QUESTIONS);
    }

    private static void dueSameAnswers(String name, State state, Call call, Question[] questions) {
        for (Question question : questions) {
            GradingMixes x = state.make();
            check.due(name + " is as due", call.isAsDue(x), true);
            StringBuilder is = new StringBuilder();
            question.ask(x, is);
            StringBuilder was = new StringBuilder();
            question.ask(state.make(), was);
            check.due(name + ": " + is + ", without it" + was + "; the same", is.compareTo(was) == 0, true);
        }
    }

    /** In a new object, in one with room for more, in a full one, and in one that has no best mix. */
    private static void dueRefused(String name, Call call) {
        dueSame(name + ", new", GradingMixes::new, call);
        dueSame(name + ", used", Samples::used, call);
        dueSame(name + ", full", Samples::full, call);
        dueSame(name + ", missing", Samples::missing, call);
    }

    private static void refusedSieve() {
        check.begin("promise 2: what a refused sieve leaves");
        dueRefused("sieve(-1, 5)", x -> x.sieve(-1, 5) == BAD);
        dueRefused("sieve(6, 5)", x -> x.sieve(6, 5) == BAD);
        dueRefused("sieve(5, 1001)", x -> x.sieve(5, 1001) == BAD);
        dueRefused("sieve(MIN, MAX)", x -> x.sieve(MIN, MAX) == BAD);
    }

    private static void refusedBand() {
        check.begin("promise 3: what a refused band leaves");
        dueRefused("band(-1, 1, 2)", x -> !x.band(-1, 1, 2));
        dueRefused("band(6, 1, 2)", x -> !x.band(6, 1, 2));
        dueRefused("band(0, -1, 2)", x -> !x.band(0, -1, 2));
        dueRefused("band(0, 3, 2)", x -> !x.band(0, 3, 2));
        dueRefused("band(0, 3, 1001)", x -> !x.band(0, 3, 1001));
        dueSame("band(3, 1, 2) of three", Samples::used, x -> !x.band(3, 1, 2));
    }

    private static void refusedStock() {
        check.begin("promise 4: what a refused stock leaves");
        dueRefused("price -1", x -> x.stock(-1, 0, 100, false) == BAD);
        dueRefused("price 100001", x -> x.stock(100001, 0, 100, false) == BAD);
        dueRefused("least -1", x -> x.stock(1, -1, 100, true) == BAD);
        dueRefused("least above most", x -> x.stock(1, 51, 50, true) == BAD);
        dueRefused("most 101", x -> x.stock(1, 0, 101, false) == BAD);
    }

    private static void refusedPasses() {
        check.begin("promise 5: what refused passes leave");
        dueRefused("stock -1", x -> !x.passes(-1, 0, 1, 1));
        dueRefused("stock 4", x -> !x.passes(4, 0, 1, 1));
        dueRefused("sieve -1", x -> !x.passes(0, -1, 1, 1));
        dueRefused("sieve 6", x -> !x.passes(0, 6, 1, 1));
        dueRefused("passing -1", x -> !x.passes(0, 0, -1, 1));
        dueRefused("passing 1001", x -> !x.passes(0, 0, 1001, 1));
        dueRefused("off -1", x -> !x.passes(0, 0, 1, -1));
        dueRefused("off 301", x -> !x.passes(0, 0, 1, 301));
        dueSame("stock 3 of three", Samples::used, x -> !x.passes(3, 0, 1, 1));
        dueSame("sieve 3 of three", Samples::used, x -> !x.passes(0, 3, 1, 1));
    }

    private static void refusedCap() {
        check.begin("promise 6: what a refused cap leaves");
        dueRefused("cap(-1)", x -> x.cap(-1) == BAD);
        dueRefused("cap(101)", x -> x.cap(101) == BAD);
    }

    private static void refusedStep() {
        check.begin("promise 7: what a refused step leaves");
        dueRefused("step(-1)", x -> x.step(-1) == BAD);
        dueRefused("step(0)", x -> x.step(0) == BAD);
        dueRefused("step(3)", x -> x.step(3) == BAD);
        dueRefused("step(101)", x -> x.step(101) == BAD);
        dueRefused("step(200)", x -> x.step(200) == BAD);
    }

    private static void refusedUnit() {
        check.begin("promise 8: what a refused unit leaves");
        dueRefused("unit(31)", x -> !x.unit(31));
        dueRefused("unit(127)", x -> !x.unit(127));
        dueSame("unit('1') without room", Samples::full, x -> !x.unit('1'));
    }

    /** The signs are gone in both: in one by the read() that is refused, in the other by one before it. */
    private static void refusedRead() {
        check.begin("promise 9: what a refused read leaves");
        dueSame("read() of nothing, new", GradingMixes::new, x -> x.read() == -1);
        dueSame("read() of nothing, used", StayEdgesTest::usedWithoutSigns, x -> x.read() == -1);
        dueSame("read() of 1-2,3-4,5-6,7-8", StayEdgesTest::usedWithoutSigns, x -> readOf(x, "1-2,3-4,5-6,7-8") == -13);
        dueSame("read() of 1-2,4-3", StayEdgesTest::usedWithoutSigns, x -> readOf(x, "1-2,4-3") == -5);
        dueSame("read() of 1-2,3-4x", StayEdgesTest::usedWithoutSigns, x -> readOf(x, "1-2,3-4x") == -8);
        dueSame("read() of 1-2,", StayEdgesTest::usedWithoutSigns, x -> readOf(x, "1-2,") == -5);
    }

    private static GradingMixes usedWithoutSigns() {
        GradingMixes x = Samples.used();
        check.due("read() of 1-2,", x.read(), -5);
        return x;
    }

    private static int readOf(GradingMixes x, String signs) {
        Samples.collect(x, signs);
        return x.read();
    }

    private static void refusedRunAndNear() {
        check.begin("promises 10 and 11: what a refused run or near leaves");
        dueSame("run() without stocks", GradingMixes::new, x -> x.run() == BAD);
        dueSame("near() without stocks", GradingMixes::new, x -> x.near() == BAD);
        dueSame("run() with the nearest at hand", Samples::missing, x -> x.run() == BAD);
        dueSame("run() and tests of no mix", StayEdgesTest::testsOfNoMix, x -> x.run() == BAD);
        dueSame("near() and tests of no mix", StayEdgesTest::testsOfNoMix, x -> x.near() == BAD);
    }

    private static GradingMixes testsOfNoMix() {
        GradingMixes x = Samples.withSieves(2, 100, 500);
        x.stock(1, 0, 95, false);
        x.test(0, 99);
        x.test(1, 480);
        Samples.collect(x, "1-");
        return x;
    }

    private static void refusedQuestions() {
        check.begin("promises 12 to 16, 19, 22, 23: what a refused question leaves");
        dueRefused("share(-1)", x -> x.share(-1) == BAD);
        dueRefused("share(4)", x -> x.share(4) == BAD);
        dueRefused("told(6, 0)", x -> x.told(6, 0) == BAD);
        dueRefused("told(0, 4)", x -> x.told(0, 4) == BAD);
        dueRefused("lonely(-1)", x -> x.lonely(-1) == BAD);
        dueRefused("lonely(6)", x -> x.lonely(6) == BAD);
        dueRefused("worth(6, true, 1)", x -> x.worth(6, true, 1) == BAD);
        dueRefused("worth(0, true, 1001)", x -> x.worth(0, true, 1001) == BAD);
        dueRefused("worth(0, false, -1)", x -> x.worth(0, false, -1) == BAD);
        dueSame("worth without best mix", Samples::missing, x -> x.worth(0, false, 1000) == BAD);
        dueRefused("mass(4, true)", x -> x.mass(4, true) == BAD);
        dueRefused("fired(100, 0)", x -> x.fired(100, 0) == BAD);
        dueRefused("fired(0, 3)", x -> x.fired(0, 3) == BAD);
        dueRefused("count(6)", x -> x.count(6) == BAD);
        dueRefused("count(-1)", x -> x.count(-1) == BAD);
    }

    private static void refusedWaterAndLimit() {
        check.begin("promises 17 and 20: what a refused water or limit leaves");
        dueRefused("water(-1, 5)", x -> x.water(-1, 5) == BAD);
        dueRefused("water(4, 5)", x -> x.water(4, 5) == BAD);
        dueRefused("water(0, -1)", x -> x.water(0, -1) == BAD);
        dueRefused("water(0, 301)", x -> x.water(0, 301) == BAD);
        dueSame("water(3, 5) of three", Samples::used, x -> x.water(3, 5) == BAD);
        dueRefused("limit(0)", x -> x.limit(0) == BAD);
        dueRefused("limit(1001)", x -> x.limit(1001) == BAD);
    }

    private static void refusedBatch() {
        check.begin("promise 18: what a refused batch leaves");
        dueRefused("batch(-1)", x -> x.batch(-1) == BAD);
        dueRefused("batch(1000001)", x -> x.batch(1000001) == BAD);
        dueSame("batch(5) without mix", StayEdgesTest::testsOfNoMix, x -> x.batch(5) == BAD);
    }

    private static void refusedTest() {
        check.begin("promise 21: what a refused test leaves");
        dueRefused("test(-1, 5)", x -> x.test(-1, 5) == BAD);
        dueRefused("test(6, 5)", x -> x.test(6, 5) == BAD);
        dueRefused("test(0, -1)", x -> x.test(0, -1) == BAD);
        dueRefused("test(0, 1001)", x -> x.test(0, 1001) == BAD);
        dueSame("test(3, 5) of three", Samples::used, x -> x.test(3, 5) == BAD);
    }

    private static void refusedForWantOfRoom() {
        check.begin("promises 2, 4, 8, 21: what is refused for want of room leaves all");
        dueSame("a seventh sieve", Samples::full, x -> x.sieve(0, 1000) == BAD);
        dueSame("a fifth stock", Samples::full, x -> x.stock(1, 0, 100, false) == BAD);
        dueSame("a sixty-first sign", Samples::full, x -> !x.unit('0'));
        dueSame("a hundred and first test", Samples::full, x -> x.test(0, 900) == BAD);
    }

    private static void questionsChangeNothing() {
        check.begin("promises 12 to 16, 19, 22, 23: a question changes nothing");
        dueSame("share(0)", Samples::used, x -> x.share(0) == 70);
        dueSame("told(0, 3)", Samples::used, x -> x.told(0, 3) == 0);
        dueSame("cost()", Samples::used, x -> x.cost() == 70 * 30 + 20 * 20 + 10 * 90);
        dueSame("lonely(0)", Samples::used, x -> x.lonely(0) == BAD);
        dueSame("worth(0, true, 400)", Samples::used, x -> x.worth(0, true, 400) == 0);
        dueSame("worth(0, false, 200)", Samples::used, x -> x.worth(0, false, 200) == 0);
        dueSame("mass(0, true)", Samples::used, x -> x.mass(0, true) == 863 + 28);
        dueSame("fired(1, 2)", Samples::used, x -> x.fired(1, 2) == 3);
        dueSame("count(0)", Samples::used, x -> x.count(0) == 3);
        dueSame("count(4)", Samples::used, x -> x.count(4) == 3);
        dueSame("count(5)", Samples::used, x -> x.count(5) == 3);
        dueSame("lonely(0) of one", Samples::missing, x -> x.lonely(0) == 0);
    }

    /** What is gone: the mix at hand, its batch, all tests. */
    private static void dueGone(String name, Call call) {
        GradingMixes x = Samples.used();
        check.due(name + " is taken", call.isAsDue(x), true);
        check.due("cost() behind " + name, x.cost(), BAD);
        check.due("share(0) behind " + name, x.share(0), BAD);
        check.due("told(0, 0) behind " + name, x.told(0, 0), BAD);
        check.due("batch(1) behind " + name, x.batch(1), BAD);
        check.due("mass(0, false) behind " + name, x.mass(0, false), BAD);
        check.due("mass(0, true) behind " + name, x.mass(0, true), BAD);
        check.due("count(2) behind " + name, x.count(2), 0);
        check.due("count(3) behind " + name, x.count(3), 0);
        check.due("fired(0, 0) behind " + name, x.fired(0, 0), BAD);
        check.due("no test is before this one", x.test(1, 900), 0);
        check.due("one is before this one", x.test(1, 829), 3);
        check.due("tests are told from 0 again", x.fired(0, 1), 1);
    }

    /** What is not gone: all else that the call does not set. */
    private static void dueStays(String name, int cap, int step, Call call) {
        GradingMixes x = Samples.used();
        check.due(name + " is taken", call.isAsDue(x), true);
        check.due("water(0, 0) behind " + name, x.water(0, 0), 33);
        check.due("water(1, 0) behind " + name, x.water(1, 0), 44);
        check.due("water(2, 0) behind " + name, x.water(2, 0), 55);
        check.due("limit(1) behind " + name, x.limit(1), 70);
        check.due("cap(0) behind " + name, x.cap(0), cap);
        check.due("step(1) behind " + name, x.step(1), step);
    }

    private static void dueSignsStay(String name, Call call) {
        GradingMixes x = Samples.used();
        check.due(name + " is taken", call.isAsDue(x), true);
        Samples.collect(x, "x");
        check.due("behind " + name + " the signs are 1-2,x", x.read(), -5);
    }

    private static void dueChange(String name, Call call) {
        dueGone(name, call);
        dueStays(name, 30, 10, call);
        dueSignsStay(name, call);
    }

    private static void takenSieve() {
        check.begin("promise 2: the mix at hand is gone, and all tests, but signs that are collected");
        dueChange("sieve(0, 0)", x -> x.sieve(0, 0) == 3);
        dueChange("sieve(0, 1000)", x -> x.sieve(0, 1000) == 3);
    }

    private static void takenBand() {
        check.begin("promise 3: a band, the same one too, takes the mix at hand and all tests");
        dueChange("band(0, 200, 600)", x -> x.band(0, 200, 600));
        dueChange("band(2, 0, 1000)", x -> x.band(2, 0, 1000));
    }

    private static void takenStock() {
        check.begin("promise 4: a stock takes the mix at hand and all tests");
        dueChange("stock(0, 0, 0, false)", x -> x.stock(0, 0, 0, false) == 3);
        dueChange("stock(100000, 0, 100, true)", x -> x.stock(100000, 0, 100, true) == 3);
    }

    private static void takenPasses() {
        check.begin("promise 5: passes, the same too, take the mix at hand and all tests");
        dueChange("passes(0, 0, 300, 5)", x -> x.passes(0, 0, 300, 5));
        dueChange("passes(2, 2, 0, 0)", x -> x.passes(2, 2, 0, 0));
    }

    private static void takenCap() {
        check.begin("promise 6: a cap, the same one too, takes the mix at hand and all tests");
        dueChange("cap(30)", x -> x.cap(30) == 30);
        dueGone("cap(100)", x -> x.cap(100) == 30);
        dueStays("cap(100)", 100, 10, x -> x.cap(100) == 30);
        dueSignsStay("cap(100)", x -> x.cap(100) == 30);
    }

    private static void takenStep() {
        check.begin("promise 7: a step, the same one too, takes the mix at hand and all tests");
        dueChange("step(10)", x -> x.step(10) == 10);
        dueGone("step(1)", x -> x.step(1) == 10);
        dueStays("step(1)", 30, 1, x -> x.step(1) == 10);
        dueSignsStay("step(1)", x -> x.step(1) == 10);
    }

    private static void takenRead() {
        check.begin("promise 9: read, of the same bands too, takes the mix at hand and all tests");
        dueGone("read()", x -> readOf(x, "100-900") == 2);
        dueStays("read()", 30, 10, x -> readOf(x, "100-900") == 2);
        dueGone("read() of the same", x -> x.read() == -5 && readOf(x, "200-600,100-900,0-990") == 3);
    }

    private static void dueAllThere(GradingMixes x, String name) {
        check.due("cost() behind " + name, x.cost(), 3400);
        check.due("share(0) behind " + name, x.share(0), 70);
        check.due("told(0, 0) behind " + name, x.told(0, 0), 70 * 300 + 20 * 340 + 10 * 380);
        check.due("count(3) behind " + name, x.count(3), 2);
        check.due("fired(1, 0) behind " + name, x.fired(1, 0), 1);
    }

    private static void dueSettings(String name, Call call) {
        dueSameAnswers(name, Samples::used, call, SETTINGS);
    }

    private static void takenUnit() {
        check.begin("promises 2 and 8: signs that are collected take nothing");
        GradingMixes x = Samples.used();
        check.due("unit('3')", x.unit('3'), true);
        dueAllThere(x, "unit");
        check.due("mass(0, false)", x.mass(0, false), 863);
        check.due("count(2)", x.count(2), 4);
        check.due("read() of 1-2,3", x.read(), -6);
        dueSettings("unit('3')", y -> y.unit('3'));
    }

    private static void takenRunAndNear() {
        check.begin("promises 10 and 11: a mix that comes takes no tests and no signs");
        GradingMixes x = Samples.used();
        check.due("run()", x.run(), 3400);
        dueAllThere(x, "run()");
        check.due("count(2)", x.count(2), 4);
        check.due("near()", x.near(), 0);
        dueAllThere(x, "near()");
        check.due("count(2)", x.count(2), 4);
        check.due("read() of 1-2,", x.read(), -5);
        dueSettings("run()", y -> y.run() == 3400);
        dueSettings("near()", y -> y.near() == 0);
    }

    private static void takenWater() {
        check.begin("promise 17: water takes nothing");
        GradingMixes x = Samples.used();
        check.due("water(0, 300)", x.water(0, 300), 33);
        dueAllThere(x, "water");
        check.due("count(2)", x.count(2), 4);
        check.due("mass(0, true)", x.mass(0, true), 863 + 28);
        check.due("water of another", x.water(1, 44), 44);
        check.due("read() of 1-2,", x.read(), -5);
    }

    private static void takenBatch() {
        check.begin("promise 18: a batch takes only the one before it");
        GradingMixes x = Samples.used();
        x.batch(10);
        dueAllThere(x, "batch");
        check.due("count(2)", x.count(2), 4);
        check.due("mass(0, false)", x.mass(0, false), 7);
        check.due("read() of 1-2,", x.read(), -5);
        dueSettings("batch(10)", y -> y.batch(10) == 0);
    }

    private static void takenLimit() {
        check.begin("promise 20: a limit takes nothing");
        GradingMixes x = Samples.used();
        check.due("limit(1)", x.limit(1), 70);
        dueAllThere(x, "limit");
        check.due("count(2)", x.count(2), 4);
        check.due("mass(0, false)", x.mass(0, false), 863);
        check.due("read() of 1-2,", x.read(), -5);
        check.due("what has not fired does not fire behind it", x.fired(2, 0), BAD);
    }

    private static void takenTest() {
        check.begin("promise 21: a test takes nothing");
        GradingMixes x = Samples.used();
        check.due("test(2, 401)", x.test(2, 401), 0);
        dueAllThere(x, "test");
        check.due("count(2)", x.count(2), 5);
        check.due("mass(0, false)", x.mass(0, false), 863);
        check.due("read() of 1-2,", x.read(), -5);
        dueSettings("test(2, 401)", y -> y.test(2, 401) == 0);
    }

    /** Nothing that was found before a change may be told behind it. */
    private static void changesAreSeenAtOnce() {
        check.begin("promises 2 to 9: what is found behind a change is new");
        GradingMixes x = Samples.withOne(0, 1000, 400, 0);
        check.due("count(5)", x.count(5), 1);
        x.sieve(1, 1000);
        check.due("behind sieve", x.count(5), 0);
        check.due("lonely", x.lonely(0), 1);
        x.passes(0, 1, 1, 0);
        check.due("behind passes", x.count(5), 1);
        check.due("lonely", x.lonely(0), BAD);
        x.band(1, 0, 0);
        check.due("behind band", x.count(5), 0);
        check.due("read", readOf(x, "0-1000,1-1"), 2);
        check.due("behind read", x.count(5), 1);
        x.stock(1, 0, 50, true);
        check.due("behind stock", x.count(4), 11);
        check.due("those that keep all", x.count(5), 1);
        check.due("worth", x.worth(1, false, 1), 50 * 7 - 50);
        x.band(0, 401, 1000);
        check.due("lonely, the first sieve", x.lonely(0), 0);
        x.band(0, 0, 400);
        check.due("lonely no more", x.lonely(0), BAD);
        x.cap(25);
        check.due("behind cap", x.count(4), 6);
        check.due("worth", x.worth(1, false, 1), 25 * 7 - 25);
        x.step(25);
        check.due("behind step", x.count(4), 2);
        check.due("run()", x.run(), 700);
    }

    private static void usedFor512Calls() {
        check.begin("what it is: used for 512 calls");
        GradingMixes x = Samples.withOne(0, 1000, 400, 0);
        x.run();
        for (int call = 4; call < 511; call++) {
            callOne(x, call);
        }
        check.due("the 512th call", x.cost(), 700);
        GradingMixes tests = Samples.withSieves(1, 0, 1000);
        for (int call = 1; call < 512; call++) {
            boolean change = call % 102 == 0;
            int room = call % 102 <= 100 ? 0 : BAD;
            if (change) {
                check.due("a band makes room", tests.band(0, 0, 1000), true);
            } else {
                check.due("test of call " + call, tests.test(0, 500), room);
            }
        }
        GradingMixes signs = new GradingMixes();
        for (int call = 0; call < 512; call++) {
            boolean read = call % 62 == 61;
            if (read) {
                check.due("read() of call " + call, signs.read(), -1);
            } else {
                check.due("unit of call " + call, signs.unit('7'), call % 62 < 60);
            }
        }
    }

    private static void callOne(GradingMixes x, int call) {
        switch (call % 4) {
            case 0 -> check.due("run() of call " + call, x.run(), 700);
            case 1 -> check.due("batch of call " + call, x.batch(call), 0);
            case 2 -> check.due("mass of call " + call, x.mass(0, true), call - 1);
            default -> check.due("limit of call " + call, x.limit(50), 50);
        }
    }

    private static void usedFor512DearCalls() {
        check.begin("what it is: used for 512 calls, each of which looks at all mixes");
        GradingMixes x = Samples.withSieves(6, 100, 900);
        for (int stock = 0; stock < 4; stock++) {
            x.stock(stock + 1, 0, 100, false);
            for (int sieve = 0; sieve < 6; sieve++) {
                x.passes(stock, sieve, 300 + 100 * stock + sieve, 9);
            }
        }
        x.step(1);
        for (int call = 35; call < 511; call++) {
            check.due("worth of call " + call, x.worth(call % 6, call % 2 == 0, call), 0);
        }
        check.due("the 512th call", x.count(4), 176851);
    }
}
